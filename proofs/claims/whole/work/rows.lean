section
-- ===== PART A: goes FIRST, ahead of the names: the tables' words, and 'selects' of the private methods out of them =====
/-- a private method of a class that the tables say can be made, by its rows of tables_1 -/
def lw_okq (q : MethodName × Nat) : Prop := (q.1.cls ≠ "java/lang/invoke/MethodHandle" ∧ q.1.cls ≠ "java/lang/invoke/VarHandle") ∧ Cond.instantiable q.1.cls q.2 ∈ tables_1 ∧ Cond.privateMethod q.1 ∈ tables_1 ∧ Cond.instanceMethod q.1 ∈ tables_1
theorem lw_p0 : lw_okq (⟨"DueWheels", "refusalOfTicks", "(I)I"⟩, 12) := ⟨⟨by decide +kernel, by decide +kernel⟩, List.mem_of_getElem? (i := 18) (by decide +kernel), List.mem_of_getElem? (i := 390) (by decide +kernel), List.mem_of_getElem? (i := 391) (by decide +kernel)⟩
theorem lw_p1 : lw_okq (⟨"DueWheels$Works", "bringFarOnes", "()V"⟩, 7) := ⟨⟨by decide +kernel, by decide +kernel⟩, List.mem_of_getElem? (i := 26) (by decide +kernel), List.mem_of_getElem? (i := 402) (by decide +kernel), List.mem_of_getElem? (i := 403) (by decide +kernel)⟩
theorem lw_p2 : lw_okq (⟨"DueWheels$Works", "moveFrom", "(II)V"⟩, 7) := ⟨⟨by decide +kernel, by decide +kernel⟩, List.mem_of_getElem? (i := 26) (by decide +kernel), List.mem_of_getElem? (i := 410) (by decide +kernel), List.mem_of_getElem? (i := 411) (by decide +kernel)⟩
theorem lw_p3 : lw_okq (⟨"DueWheels$Works", "ringLine", "()V"⟩, 7) := ⟨⟨by decide +kernel, by decide +kernel⟩, List.mem_of_getElem? (i := 26) (by decide +kernel), List.mem_of_getElem? (i := 426) (by decide +kernel), List.mem_of_getElem? (i := 427) (by decide +kernel)⟩
theorem lw_p4 : lw_okq (⟨"DueWheels$Works", "ring", "(LDueWheels$Timer;)V"⟩, 7) := ⟨⟨by decide +kernel, by decide +kernel⟩, List.mem_of_getElem? (i := 26) (by decide +kernel), List.mem_of_getElem? (i := 434) (by decide +kernel), List.mem_of_getElem? (i := 435) (by decide +kernel)⟩
theorem lw_p5 : lw_okq (⟨"DueWheels$Works", "catchUp", "(LDueWheels$Timer;)V"⟩, 7) := ⟨⟨by decide +kernel, by decide +kernel⟩, List.mem_of_getElem? (i := 26) (by decide +kernel), List.mem_of_getElem? (i := 438) (by decide +kernel), List.mem_of_getElem? (i := 439) (by decide +kernel)⟩
theorem lw_p6 : lw_okq (⟨"DueWheels", "keepWhatRang", "()I"⟩, 12) := ⟨⟨by decide +kernel, by decide +kernel⟩, List.mem_of_getElem? (i := 18) (by decide +kernel), List.mem_of_getElem? (i := 445) (by decide +kernel), List.mem_of_getElem? (i := 446) (by decide +kernel)⟩
theorem lw_p7 : lw_okq (⟨"DueWheels", "tellLatest", "(IZ)V"⟩, 12) := ⟨⟨by decide +kernel, by decide +kernel⟩, List.mem_of_getElem? (i := 18) (by decide +kernel), List.mem_of_getElem? (i := 455) (by decide +kernel), List.mem_of_getElem? (i := 456) (by decide +kernel)⟩
theorem lw_p8 : lw_okq (⟨"DueWheels", "refusalOfLeap", "(I)I"⟩, 12) := ⟨⟨by decide +kernel, by decide +kernel⟩, List.mem_of_getElem? (i := 18) (by decide +kernel), List.mem_of_getElem? (i := 480) (by decide +kernel), List.mem_of_getElem? (i := 481) (by decide +kernel)⟩
theorem lw_p9 : lw_okq (⟨"DueWheels", "putApart", "(LDueWheels$Line;I)I"⟩, 12) := ⟨⟨by decide +kernel, by decide +kernel⟩, List.mem_of_getElem? (i := 18) (by decide +kernel), List.mem_of_getElem? (i := 555) (by decide +kernel), List.mem_of_getElem? (i := 556) (by decide +kernel)⟩
theorem lw_p10 : lw_okq (⟨"DueWheels$Acts", "readsAct", "(LDueWheels$Text;)Z"⟩, 8) := ⟨⟨by decide +kernel, by decide +kernel⟩, List.mem_of_getElem? (i := 258) (by decide +kernel), List.mem_of_getElem? (i := 571) (by decide +kernel), List.mem_of_getElem? (i := 572) (by decide +kernel)⟩
theorem lw_p11 : lw_okq (⟨"DueWheels$Acts", "fails", "(I)Z"⟩, 8) := ⟨⟨by decide +kernel, by decide +kernel⟩, List.mem_of_getElem? (i := 258) (by decide +kernel), List.mem_of_getElem? (i := 579) (by decide +kernel), List.mem_of_getElem? (i := 580) (by decide +kernel)⟩
theorem lw_p12 : lw_okq (⟨"DueWheels$Acts", "readsSet", "(LDueWheels$Text;)Z"⟩, 8) := ⟨⟨by decide +kernel, by decide +kernel⟩, List.mem_of_getElem? (i := 258) (by decide +kernel), List.mem_of_getElem? (i := 583) (by decide +kernel), List.mem_of_getElem? (i := 584) (by decide +kernel)⟩
theorem lw_p13 : lw_okq (⟨"DueWheels$Acts", "readsNumber", "(LDueWheels$Text;III)Z"⟩, 8) := ⟨⟨by decide +kernel, by decide +kernel⟩, List.mem_of_getElem? (i := 258) (by decide +kernel), List.mem_of_getElem? (i := 587) (by decide +kernel), List.mem_of_getElem? (i := 588) (by decide +kernel)⟩
theorem lw_p14 : lw_okq (⟨"DueWheels$Acts", "keepsNumber", "()Z"⟩, 8) := ⟨⟨by decide +kernel, by decide +kernel⟩, List.mem_of_getElem? (i := 258) (by decide +kernel), List.mem_of_getElem? (i := 595) (by decide +kernel), List.mem_of_getElem? (i := 596) (by decide +kernel)⟩
theorem lw_p15 : lw_okq (⟨"DueWheels$Acts", "readsSign", "(LDueWheels$Text;I)Z"⟩, 8) := ⟨⟨by decide +kernel, by decide +kernel⟩, List.mem_of_getElem? (i := 258) (by decide +kernel), List.mem_of_getElem? (i := 599) (by decide +kernel), List.mem_of_getElem? (i := 600) (by decide +kernel)⟩
def lw_privs_1 : List (MethodName × Nat) := [(⟨"DueWheels", "refusalOfTicks", "(I)I"⟩, 12), (⟨"DueWheels$Works", "bringFarOnes", "()V"⟩, 7), (⟨"DueWheels$Works", "moveFrom", "(II)V"⟩, 7), (⟨"DueWheels$Works", "ringLine", "()V"⟩, 7), (⟨"DueWheels$Works", "ring", "(LDueWheels$Timer;)V"⟩, 7), (⟨"DueWheels$Works", "catchUp", "(LDueWheels$Timer;)V"⟩, 7), (⟨"DueWheels", "keepWhatRang", "()I"⟩, 12), (⟨"DueWheels", "tellLatest", "(IZ)V"⟩, 12), (⟨"DueWheels", "refusalOfLeap", "(I)I"⟩, 12), (⟨"DueWheels", "putApart", "(LDueWheels$Line;I)I"⟩, 12), (⟨"DueWheels$Acts", "readsAct", "(LDueWheels$Text;)Z"⟩, 8), (⟨"DueWheels$Acts", "fails", "(I)Z"⟩, 8), (⟨"DueWheels$Acts", "readsSet", "(LDueWheels$Text;)Z"⟩, 8), (⟨"DueWheels$Acts", "readsNumber", "(LDueWheels$Text;III)Z"⟩, 8), (⟨"DueWheels$Acts", "keepsNumber", "()Z"⟩, 8), (⟨"DueWheels$Acts", "readsSign", "(LDueWheels$Text;I)Z"⟩, 8)]
theorem lw_r1 : ∀ q ∈ lw_privs_1, lw_okq q := List.forall_mem_cons.mpr ⟨lw_p0, List.forall_mem_cons.mpr ⟨lw_p1, List.forall_mem_cons.mpr ⟨lw_p2, List.forall_mem_cons.mpr ⟨lw_p3, List.forall_mem_cons.mpr ⟨lw_p4, List.forall_mem_cons.mpr ⟨lw_p5, List.forall_mem_cons.mpr ⟨lw_p6, List.forall_mem_cons.mpr ⟨lw_p7, List.forall_mem_cons.mpr ⟨lw_p8, List.forall_mem_cons.mpr ⟨lw_p9, List.forall_mem_cons.mpr ⟨lw_p10, List.forall_mem_cons.mpr ⟨lw_p11, List.forall_mem_cons.mpr ⟨lw_p12, List.forall_mem_cons.mpr ⟨lw_p13, List.forall_mem_cons.mpr ⟨lw_p14, List.forall_mem_cons.mpr ⟨lw_p15, fun _ h => absurd h List.not_mem_nil⟩⟩⟩⟩⟩⟩⟩⟩⟩⟩⟩⟩⟩⟩⟩⟩
theorem lw_p16 : lw_okq (⟨"DueWheels$Acts", "readsLeap", "(LDueWheels$Text;)Z"⟩, 8) := ⟨⟨by decide +kernel, by decide +kernel⟩, List.mem_of_getElem? (i := 258) (by decide +kernel), List.mem_of_getElem? (i := 603) (by decide +kernel), List.mem_of_getElem? (i := 604) (by decide +kernel)⟩
theorem lw_p17 : lw_okq (⟨"DueWheels", "does", "(I)Z"⟩, 12) := ⟨⟨by decide +kernel, by decide +kernel⟩, List.mem_of_getElem? (i := 18) (by decide +kernel), List.mem_of_getElem? (i := 611) (by decide +kernel), List.mem_of_getElem? (i := 612) (by decide +kernel)⟩
theorem lw_p18 : lw_okq (⟨"DueWheels", "tellLine", "(LDueWheels$Line;)V"⟩, 12) := ⟨⟨by decide +kernel, by decide +kernel⟩, List.mem_of_getElem? (i := 18) (by decide +kernel), List.mem_of_getElem? (i := 640) (by decide +kernel), List.mem_of_getElem? (i := 641) (by decide +kernel)⟩
theorem lw_p19 : lw_okq (⟨"DueWheels", "tellWhatRings", "(I)V"⟩, 12) := ⟨⟨by decide +kernel, by decide +kernel⟩, List.mem_of_getElem? (i := 18) (by decide +kernel), List.mem_of_getElem? (i := 688) (by decide +kernel), List.mem_of_getElem? (i := 689) (by decide +kernel)⟩
theorem lw_p20 : lw_okq (⟨"DueWheels", "movesBy", "(LDueWheels$Shape;)I"⟩, 12) := ⟨⟨by decide +kernel, by decide +kernel⟩, List.mem_of_getElem? (i := 18) (by decide +kernel), List.mem_of_getElem? (i := 718) (by decide +kernel), List.mem_of_getElem? (i := 719) (by decide +kernel)⟩
theorem lw_p21 : lw_okq (⟨"java/lang/Throwable", "fillInStackTrace", "(I)Ljava/lang/Throwable;"⟩, 6) := ⟨⟨by decide +kernel, by decide +kernel⟩, List.mem_of_getElem? (i := 823) (by decide +kernel), List.mem_of_getElem? (i := 821) (by decide +kernel), List.mem_of_getElem? (i := 822) (by decide +kernel)⟩
theorem lw_p22 : lw_okq (⟨"DueWheelsModel", "puts", "(II)V"⟩, 21) := ⟨⟨by decide +kernel, by decide +kernel⟩, List.mem_of_getElem? (i := 870) (by decide +kernel), List.mem_of_getElem? (i := 876) (by decide +kernel), List.mem_of_getElem? (i := 877) (by decide +kernel)⟩
theorem lw_p23 : lw_okq (⟨"DueWheelsModel", "wishes", "(IIII)I"⟩, 21) := ⟨⟨by decide +kernel, by decide +kernel⟩, List.mem_of_getElem? (i := 870) (by decide +kernel), List.mem_of_getElem? (i := 948) (by decide +kernel), List.mem_of_getElem? (i := 949) (by decide +kernel)⟩
theorem lw_p24 : lw_okq (⟨"DueWheelsModel", "isAsWished", "(I)Z"⟩, 21) := ⟨⟨by decide +kernel, by decide +kernel⟩, List.mem_of_getElem? (i := 870) (by decide +kernel), List.mem_of_getElem? (i := 954) (by decide +kernel), List.mem_of_getElem? (i := 955) (by decide +kernel)⟩
theorem lw_p25 : lw_okq (⟨"DueWheelsModel", "of", "(I)I"⟩, 21) := ⟨⟨by decide +kernel, by decide +kernel⟩, List.mem_of_getElem? (i := 870) (by decide +kernel), List.mem_of_getElem? (i := 958) (by decide +kernel), List.mem_of_getElem? (i := 959) (by decide +kernel)⟩
theorem lw_p26 : lw_okq (⟨"DueWheelsModel", "laysWished", "(I)V"⟩, 21) := ⟨⟨by decide +kernel, by decide +kernel⟩, List.mem_of_getElem? (i := 870) (by decide +kernel), List.mem_of_getElem? (i := 962) (by decide +kernel), List.mem_of_getElem? (i := 963) (by decide +kernel)⟩
theorem lw_p27 : lw_okq (⟨"DueWheelsModel", "laysAll", "()V"⟩, 21) := ⟨⟨by decide +kernel, by decide +kernel⟩, List.mem_of_getElem? (i := 870) (by decide +kernel), List.mem_of_getElem? (i := 966) (by decide +kernel), List.mem_of_getElem? (i := 967) (by decide +kernel)⟩
theorem lw_p28 : lw_okq (⟨"DueWheelsModel", "goes", "(I)Z"⟩, 21) := ⟨⟨by decide +kernel, by decide +kernel⟩, List.mem_of_getElem? (i := 870) (by decide +kernel), List.mem_of_getElem? (i := 970) (by decide +kernel), List.mem_of_getElem? (i := 971) (by decide +kernel)⟩
theorem lw_p29 : lw_okq (⟨"DueWheelsModel", "isTimer", "(I)Z"⟩, 21) := ⟨⟨by decide +kernel, by decide +kernel⟩, List.mem_of_getElem? (i := 870) (by decide +kernel), List.mem_of_getElem? (i := 974) (by decide +kernel), List.mem_of_getElem? (i := 975) (by decide +kernel)⟩
theorem lw_p30 : lw_okq (⟨"DueWheelsModel", "lays", "(I)V"⟩, 21) := ⟨⟨by decide +kernel, by decide +kernel⟩, List.mem_of_getElem? (i := 870) (by decide +kernel), List.mem_of_getElem? (i := 979) (by decide +kernel), List.mem_of_getElem? (i := 980) (by decide +kernel)⟩
theorem lw_p31 : lw_okq (⟨"DueWheelsModel", "levelFor", "(I)I"⟩, 21) := ⟨⟨by decide +kernel, by decide +kernel⟩, List.mem_of_getElem? (i := 870) (by decide +kernel), List.mem_of_getElem? (i := 983) (by decide +kernel), List.mem_of_getElem? (i := 984) (by decide +kernel)⟩
def lw_privs_2 : List (MethodName × Nat) := [(⟨"DueWheels$Acts", "readsLeap", "(LDueWheels$Text;)Z"⟩, 8), (⟨"DueWheels", "does", "(I)Z"⟩, 12), (⟨"DueWheels", "tellLine", "(LDueWheels$Line;)V"⟩, 12), (⟨"DueWheels", "tellWhatRings", "(I)V"⟩, 12), (⟨"DueWheels", "movesBy", "(LDueWheels$Shape;)I"⟩, 12), (⟨"java/lang/Throwable", "fillInStackTrace", "(I)Ljava/lang/Throwable;"⟩, 6), (⟨"DueWheelsModel", "puts", "(II)V"⟩, 21), (⟨"DueWheelsModel", "wishes", "(IIII)I"⟩, 21), (⟨"DueWheelsModel", "isAsWished", "(I)Z"⟩, 21), (⟨"DueWheelsModel", "of", "(I)I"⟩, 21), (⟨"DueWheelsModel", "laysWished", "(I)V"⟩, 21), (⟨"DueWheelsModel", "laysAll", "()V"⟩, 21), (⟨"DueWheelsModel", "goes", "(I)Z"⟩, 21), (⟨"DueWheelsModel", "isTimer", "(I)Z"⟩, 21), (⟨"DueWheelsModel", "lays", "(I)V"⟩, 21), (⟨"DueWheelsModel", "levelFor", "(I)I"⟩, 21)]
theorem lw_r2 : ∀ q ∈ lw_privs_2, lw_okq q := List.forall_mem_cons.mpr ⟨lw_p16, List.forall_mem_cons.mpr ⟨lw_p17, List.forall_mem_cons.mpr ⟨lw_p18, List.forall_mem_cons.mpr ⟨lw_p19, List.forall_mem_cons.mpr ⟨lw_p20, List.forall_mem_cons.mpr ⟨lw_p21, List.forall_mem_cons.mpr ⟨lw_p22, List.forall_mem_cons.mpr ⟨lw_p23, List.forall_mem_cons.mpr ⟨lw_p24, List.forall_mem_cons.mpr ⟨lw_p25, List.forall_mem_cons.mpr ⟨lw_p26, List.forall_mem_cons.mpr ⟨lw_p27, List.forall_mem_cons.mpr ⟨lw_p28, List.forall_mem_cons.mpr ⟨lw_p29, List.forall_mem_cons.mpr ⟨lw_p30, List.forall_mem_cons.mpr ⟨lw_p31, fun _ h => absurd h List.not_mem_nil⟩⟩⟩⟩⟩⟩⟩⟩⟩⟩⟩⟩⟩⟩⟩⟩
theorem lw_p32 : lw_okq (⟨"DueWheelsModel", "span", "(I)I"⟩, 21) := ⟨⟨by decide +kernel, by decide +kernel⟩, List.mem_of_getElem? (i := 870) (by decide +kernel), List.mem_of_getElem? (i := 987) (by decide +kernel), List.mem_of_getElem? (i := 988) (by decide +kernel)⟩
theorem lw_p33 : lw_okq (⟨"DueWheelsModel", "ticksOf", "(I)I"⟩, 21) := ⟨⟨by decide +kernel, by decide +kernel⟩, List.mem_of_getElem? (i := 870) (by decide +kernel), List.mem_of_getElem? (i := 1000) (by decide +kernel), List.mem_of_getElem? (i := 1001) (by decide +kernel)⟩
theorem lw_p34 : lw_okq (⟨"DueWheelsModel", "tick", "()V"⟩, 21) := ⟨⟨by decide +kernel, by decide +kernel⟩, List.mem_of_getElem? (i := 870) (by decide +kernel), List.mem_of_getElem? (i := 1005) (by decide +kernel), List.mem_of_getElem? (i := 1006) (by decide +kernel)⟩
theorem lw_p35 : lw_okq (⟨"DueWheelsModel", "more", "(II)V"⟩, 21) := ⟨⟨by decide +kernel, by decide +kernel⟩, List.mem_of_getElem? (i := 870) (by decide +kernel), List.mem_of_getElem? (i := 1009) (by decide +kernel), List.mem_of_getElem? (i := 1010) (by decide +kernel)⟩
theorem lw_p36 : lw_okq (⟨"DueWheelsModel", "whole", "()I"⟩, 21) := ⟨⟨by decide +kernel, by decide +kernel⟩, List.mem_of_getElem? (i := 870) (by decide +kernel), List.mem_of_getElem? (i := 1013) (by decide +kernel), List.mem_of_getElem? (i := 1014) (by decide +kernel)⟩
theorem lw_p37 : lw_okq (⟨"DueWheelsModel", "moves1", "(I)V"⟩, 21) := ⟨⟨by decide +kernel, by decide +kernel⟩, List.mem_of_getElem? (i := 870) (by decide +kernel), List.mem_of_getElem? (i := 1017) (by decide +kernel), List.mem_of_getElem? (i := 1018) (by decide +kernel)⟩
theorem lw_p38 : lw_okq (⟨"DueWheelsModel", "queues", "(IZ)V"⟩, 21) := ⟨⟨by decide +kernel, by decide +kernel⟩, List.mem_of_getElem? (i := 870) (by decide +kernel), List.mem_of_getElem? (i := 1021) (by decide +kernel), List.mem_of_getElem? (i := 1022) (by decide +kernel)⟩
theorem lw_p39 : lw_okq (⟨"DueWheelsModel", "isSooner", "(IIZ)Z"⟩, 21) := ⟨⟨by decide +kernel, by decide +kernel⟩, List.mem_of_getElem? (i := 870) (by decide +kernel), List.mem_of_getElem? (i := 1025) (by decide +kernel), List.mem_of_getElem? (i := 1026) (by decide +kernel)⟩
theorem lw_p40 : lw_okq (⟨"DueWheelsModel", "isAhead", "(II)Z"⟩, 21) := ⟨⟨by decide +kernel, by decide +kernel⟩, List.mem_of_getElem? (i := 870) (by decide +kernel), List.mem_of_getElem? (i := 1029) (by decide +kernel), List.mem_of_getElem? (i := 1030) (by decide +kernel)⟩
theorem lw_p41 : lw_okq (⟨"DueWheelsModel", "ringsAll", "(Z)V"⟩, 21) := ⟨⟨by decide +kernel, by decide +kernel⟩, List.mem_of_getElem? (i := 870) (by decide +kernel), List.mem_of_getElem? (i := 1033) (by decide +kernel), List.mem_of_getElem? (i := 1034) (by decide +kernel)⟩
theorem lw_p42 : lw_okq (⟨"DueWheelsModel", "keepsRung", "(I)V"⟩, 21) := ⟨⟨by decide +kernel, by decide +kernel⟩, List.mem_of_getElem? (i := 870) (by decide +kernel), List.mem_of_getElem? (i := 1037) (by decide +kernel), List.mem_of_getElem? (i := 1038) (by decide +kernel)⟩
theorem lw_p43 : lw_okq (⟨"DueWheelsModel", "comesAgain", "(I)V"⟩, 21) := ⟨⟨by decide +kernel, by decide +kernel⟩, List.mem_of_getElem? (i := 870) (by decide +kernel), List.mem_of_getElem? (i := 1041) (by decide +kernel), List.mem_of_getElem? (i := 1042) (by decide +kernel)⟩
theorem lw_p44 : lw_okq (⟨"DueWheelsModel", "tellsLatest", "()V"⟩, 21) := ⟨⟨by decide +kernel, by decide +kernel⟩, List.mem_of_getElem? (i := 870) (by decide +kernel), List.mem_of_getElem? (i := 1046) (by decide +kernel), List.mem_of_getElem? (i := 1047) (by decide +kernel)⟩
theorem lw_p45 : lw_okq (⟨"DueWheelsModel", "enters", "(J)V"⟩, 21) := ⟨⟨by decide +kernel, by decide +kernel⟩, List.mem_of_getElem? (i := 870) (by decide +kernel), List.mem_of_getElem? (i := 1051) (by decide +kernel), List.mem_of_getElem? (i := 1052) (by decide +kernel)⟩
theorem lw_p46 : lw_okq (⟨"DueWheelsModel", "leapsBy", "(I)I"⟩, 21) := ⟨⟨by decide +kernel, by decide +kernel⟩, List.mem_of_getElem? (i := 870) (by decide +kernel), List.mem_of_getElem? (i := 1064) (by decide +kernel), List.mem_of_getElem? (i := 1065) (by decide +kernel)⟩
theorem lw_p47 : lw_okq (⟨"DueWheelsModel", "setsOne", "(IIIII)I"⟩, 21) := ⟨⟨by decide +kernel, by decide +kernel⟩, List.mem_of_getElem? (i := 870) (by decide +kernel), List.mem_of_getElem? (i := 1080) (by decide +kernel), List.mem_of_getElem? (i := 1081) (by decide +kernel)⟩
def lw_privs_3 : List (MethodName × Nat) := [(⟨"DueWheelsModel", "span", "(I)I"⟩, 21), (⟨"DueWheelsModel", "ticksOf", "(I)I"⟩, 21), (⟨"DueWheelsModel", "tick", "()V"⟩, 21), (⟨"DueWheelsModel", "more", "(II)V"⟩, 21), (⟨"DueWheelsModel", "whole", "()I"⟩, 21), (⟨"DueWheelsModel", "moves1", "(I)V"⟩, 21), (⟨"DueWheelsModel", "queues", "(IZ)V"⟩, 21), (⟨"DueWheelsModel", "isSooner", "(IIZ)Z"⟩, 21), (⟨"DueWheelsModel", "isAhead", "(II)Z"⟩, 21), (⟨"DueWheelsModel", "ringsAll", "(Z)V"⟩, 21), (⟨"DueWheelsModel", "keepsRung", "(I)V"⟩, 21), (⟨"DueWheelsModel", "comesAgain", "(I)V"⟩, 21), (⟨"DueWheelsModel", "tellsLatest", "()V"⟩, 21), (⟨"DueWheelsModel", "enters", "(J)V"⟩, 21), (⟨"DueWheelsModel", "leapsBy", "(I)I"⟩, 21), (⟨"DueWheelsModel", "setsOne", "(IIIII)I"⟩, 21)]
theorem lw_r3 : ∀ q ∈ lw_privs_3, lw_okq q := List.forall_mem_cons.mpr ⟨lw_p32, List.forall_mem_cons.mpr ⟨lw_p33, List.forall_mem_cons.mpr ⟨lw_p34, List.forall_mem_cons.mpr ⟨lw_p35, List.forall_mem_cons.mpr ⟨lw_p36, List.forall_mem_cons.mpr ⟨lw_p37, List.forall_mem_cons.mpr ⟨lw_p38, List.forall_mem_cons.mpr ⟨lw_p39, List.forall_mem_cons.mpr ⟨lw_p40, List.forall_mem_cons.mpr ⟨lw_p41, List.forall_mem_cons.mpr ⟨lw_p42, List.forall_mem_cons.mpr ⟨lw_p43, List.forall_mem_cons.mpr ⟨lw_p44, List.forall_mem_cons.mpr ⟨lw_p45, List.forall_mem_cons.mpr ⟨lw_p46, List.forall_mem_cons.mpr ⟨lw_p47, fun _ h => absurd h List.not_mem_nil⟩⟩⟩⟩⟩⟩⟩⟩⟩⟩⟩⟩⟩⟩⟩⟩
theorem lw_p48 : lw_okq (⟨"DueWheelsModel", "cancelsOne", "(I)I"⟩, 21) := ⟨⟨by decide +kernel, by decide +kernel⟩, List.mem_of_getElem? (i := 870) (by decide +kernel), List.mem_of_getElem? (i := 1088) (by decide +kernel), List.mem_of_getElem? (i := 1089) (by decide +kernel)⟩
theorem lw_p49 : lw_okq (⟨"DueWheelsModel", "many", "()I"⟩, 21) := ⟨⟨by decide +kernel, by decide +kernel⟩, List.mem_of_getElem? (i := 870) (by decide +kernel), List.mem_of_getElem? (i := 1092) (by decide +kernel), List.mem_of_getElem? (i := 1093) (by decide +kernel)⟩
theorem lw_p50 : lw_okq (⟨"DueWheelsModel", "pausesOne", "(I)V"⟩, 21) := ⟨⟨by decide +kernel, by decide +kernel⟩, List.mem_of_getElem? (i := 870) (by decide +kernel), List.mem_of_getElem? (i := 1111) (by decide +kernel), List.mem_of_getElem? (i := 1112) (by decide +kernel)⟩
theorem lw_p51 : lw_okq (⟨"DueWheelsModel", "resumesOne", "(I)V"⟩, 21) := ⟨⟨by decide +kernel, by decide +kernel⟩, List.mem_of_getElem? (i := 870) (by decide +kernel), List.mem_of_getElem? (i := 1119) (by decide +kernel), List.mem_of_getElem? (i := 1120) (by decide +kernel)⟩
theorem lw_p52 : lw_okq (⟨"DueWheelsModel", "takes", "(I)Z"⟩, 21) := ⟨⟨by decide +kernel, by decide +kernel⟩, List.mem_of_getElem? (i := 870) (by decide +kernel), List.mem_of_getElem? (i := 1146) (by decide +kernel), List.mem_of_getElem? (i := 1147) (by decide +kernel)⟩
theorem lw_p53 : lw_okq (⟨"DueWheelsModel", "readsAct", "(I)Z"⟩, 21) := ⟨⟨by decide +kernel, by decide +kernel⟩, List.mem_of_getElem? (i := 870) (by decide +kernel), List.mem_of_getElem? (i := 1150) (by decide +kernel), List.mem_of_getElem? (i := 1151) (by decide +kernel)⟩
theorem lw_p54 : lw_okq (⟨"DueWheelsModel", "number", "(III)I"⟩, 21) := ⟨⟨by decide +kernel, by decide +kernel⟩, List.mem_of_getElem? (i := 870) (by decide +kernel), List.mem_of_getElem? (i := 1154) (by decide +kernel), List.mem_of_getElem? (i := 1155) (by decide +kernel)⟩
theorem lw_p55 : lw_okq (⟨"DueWheelsModel", "isDigit", "()Z"⟩, 21) := ⟨⟨by decide +kernel, by decide +kernel⟩, List.mem_of_getElem? (i := 870) (by decide +kernel), List.mem_of_getElem? (i := 1158) (by decide +kernel), List.mem_of_getElem? (i := 1159) (by decide +kernel)⟩
theorem lw_p56 : lw_okq (⟨"DueWheelsModel", "doesAct", "(I)I"⟩, 21) := ⟨⟨by decide +kernel, by decide +kernel⟩, List.mem_of_getElem? (i := 870) (by decide +kernel), List.mem_of_getElem? (i := 1164) (by decide +kernel), List.mem_of_getElem? (i := 1165) (by decide +kernel)⟩
theorem lw_p57 : lw_okq (⟨"DueWheelsModel", "tellsLine", "()V"⟩, 21) := ⟨⟨by decide +kernel, by decide +kernel⟩, List.mem_of_getElem? (i := 870) (by decide +kernel), List.mem_of_getElem? (i := 1177) (by decide +kernel), List.mem_of_getElem? (i := 1178) (by decide +kernel)⟩
theorem lw_p58 : lw_okq (⟨"DueWheelsModel", "tries", "()V"⟩, 21) := ⟨⟨by decide +kernel, by decide +kernel⟩, List.mem_of_getElem? (i := 870) (by decide +kernel), List.mem_of_getElem? (i := 1185) (by decide +kernel), List.mem_of_getElem? (i := 1186) (by decide +kernel)⟩
theorem lw_p59 : lw_okq (⟨"DueWheelsModel", "isBack", "()V"⟩, 21) := ⟨⟨by decide +kernel, by decide +kernel⟩, List.mem_of_getElem? (i := 870) (by decide +kernel), List.mem_of_getElem? (i := 1189) (by decide +kernel), List.mem_of_getElem? (i := 1190) (by decide +kernel)⟩
theorem lw_p60 : lw_okq (⟨"DueWheelsModel", "tellsFirst", "()V"⟩, 21) := ⟨⟨by decide +kernel, by decide +kernel⟩, List.mem_of_getElem? (i := 870) (by decide +kernel), List.mem_of_getElem? (i := 1209) (by decide +kernel), List.mem_of_getElem? (i := 1210) (by decide +kernel)⟩
theorem lw_p61 : lw_okq (⟨"DueWheelsModel", "movesOf", "(I)I"⟩, 21) := ⟨⟨by decide +kernel, by decide +kernel⟩, List.mem_of_getElem? (i := 870) (by decide +kernel), List.mem_of_getElem? (i := 1221) (by decide +kernel), List.mem_of_getElem? (i := 1222) (by decide +kernel)⟩
theorem lw_p62 : lw_okq (⟨"DueWheelsModel", "ways", "(II)I"⟩, 21) := ⟨⟨by decide +kernel, by decide +kernel⟩, List.mem_of_getElem? (i := 870) (by decide +kernel), List.mem_of_getElem? (i := 1225) (by decide +kernel), List.mem_of_getElem? (i := 1226) (by decide +kernel)⟩
theorem lw_p63 : lw_okq (⟨"DueWheelsModel", "costOf", "(I)I"⟩, 21) := ⟨⟨by decide +kernel, by decide +kernel⟩, List.mem_of_getElem? (i := 870) (by decide +kernel), List.mem_of_getElem? (i := 1237) (by decide +kernel), List.mem_of_getElem? (i := 1238) (by decide +kernel)⟩
def lw_privs_4 : List (MethodName × Nat) := [(⟨"DueWheelsModel", "cancelsOne", "(I)I"⟩, 21), (⟨"DueWheelsModel", "many", "()I"⟩, 21), (⟨"DueWheelsModel", "pausesOne", "(I)V"⟩, 21), (⟨"DueWheelsModel", "resumesOne", "(I)V"⟩, 21), (⟨"DueWheelsModel", "takes", "(I)Z"⟩, 21), (⟨"DueWheelsModel", "readsAct", "(I)Z"⟩, 21), (⟨"DueWheelsModel", "number", "(III)I"⟩, 21), (⟨"DueWheelsModel", "isDigit", "()Z"⟩, 21), (⟨"DueWheelsModel", "doesAct", "(I)I"⟩, 21), (⟨"DueWheelsModel", "tellsLine", "()V"⟩, 21), (⟨"DueWheelsModel", "tries", "()V"⟩, 21), (⟨"DueWheelsModel", "isBack", "()V"⟩, 21), (⟨"DueWheelsModel", "tellsFirst", "()V"⟩, 21), (⟨"DueWheelsModel", "movesOf", "(I)I"⟩, 21), (⟨"DueWheelsModel", "ways", "(II)I"⟩, 21), (⟨"DueWheelsModel", "costOf", "(I)I"⟩, 21)]
theorem lw_r4 : ∀ q ∈ lw_privs_4, lw_okq q := List.forall_mem_cons.mpr ⟨lw_p48, List.forall_mem_cons.mpr ⟨lw_p49, List.forall_mem_cons.mpr ⟨lw_p50, List.forall_mem_cons.mpr ⟨lw_p51, List.forall_mem_cons.mpr ⟨lw_p52, List.forall_mem_cons.mpr ⟨lw_p53, List.forall_mem_cons.mpr ⟨lw_p54, List.forall_mem_cons.mpr ⟨lw_p55, List.forall_mem_cons.mpr ⟨lw_p56, List.forall_mem_cons.mpr ⟨lw_p57, List.forall_mem_cons.mpr ⟨lw_p58, List.forall_mem_cons.mpr ⟨lw_p59, List.forall_mem_cons.mpr ⟨lw_p60, List.forall_mem_cons.mpr ⟨lw_p61, List.forall_mem_cons.mpr ⟨lw_p62, List.forall_mem_cons.mpr ⟨lw_p63, fun _ h => absurd h List.not_mem_nil⟩⟩⟩⟩⟩⟩⟩⟩⟩⟩⟩⟩⟩⟩⟩⟩
theorem lw_p64 : lw_okq (⟨"DueWheelsModel", "pausedMany", "()I"⟩, 21) := ⟨⟨by decide +kernel, by decide +kernel⟩, List.mem_of_getElem? (i := 870) (by decide +kernel), List.mem_of_getElem? (i := 1285) (by decide +kernel), List.mem_of_getElem? (i := 1286) (by decide +kernel)⟩
theorem lw_p65 : lw_okq (⟨"DueWheelsModel", "farMany", "()I"⟩, 21) := ⟨⟨by decide +kernel, by decide +kernel⟩, List.mem_of_getElem? (i := 870) (by decide +kernel), List.mem_of_getElem? (i := 1289) (by decide +kernel), List.mem_of_getElem? (i := 1290) (by decide +kernel)⟩
def lw_privs_5 : List (MethodName × Nat) := [(⟨"DueWheelsModel", "pausedMany", "()I"⟩, 21), (⟨"DueWheelsModel", "farMany", "()I"⟩, 21)]
theorem lw_r5 : ∀ q ∈ lw_privs_5, lw_okq q := List.forall_mem_cons.mpr ⟨lw_p64, List.forall_mem_cons.mpr ⟨lw_p65, fun _ h => absurd h List.not_mem_nil⟩⟩
def lw_privs : List (MethodName × Nat) := lw_privs_1 ++ (lw_privs_2 ++ (lw_privs_3 ++ (lw_privs_4 ++ (lw_privs_5))))
def lw_tbl : List Cond := k2_sels lw_privs ++ tables_1
theorem lw_privs_ok : ∀ q ∈ lw_privs, lw_okq q := by
  show ∀ q ∈ lw_privs_1 ++ (lw_privs_2 ++ (lw_privs_3 ++ (lw_privs_4 ++ (lw_privs_5)))), lw_okq q
  exact List.forall_mem_append.mpr ⟨lw_r1, List.forall_mem_append.mpr ⟨lw_r2, List.forall_mem_append.mpr ⟨lw_r3, List.forall_mem_append.mpr ⟨lw_r4, lw_r5⟩⟩⟩⟩
end
section
def RX0 : String := "DueWheels$Acts"
def TX0 : u_T := fun k => match k with
  | 0 => ("DueWheels$Acts", "kinds", "[I", true)
  | 1 => ("DueWheels$Acts", "numbers", "[I", true)
  | 2 => ("DueWheels$Acts", "sorts", "[I", true)
  | 3 => ("DueWheels$Acts", "periods", "[I", true)
  | 4 => ("DueWheels$Acts", "length", "I", false)
  | 5 => ("DueWheels$Acts", "wrongAt", "I", false)
  | 6 => ("DueWheels$Acts", "place", "I", false)
  | _ => ("DueWheels$Acts", "number", "I", false)
def tyX0 : Nat → FieldType := fun k => match k with
  | 0 => .array .int
  | 1 => .array .int
  | 2 => .array .int
  | 3 => .array .int
  | 4 => .int
  | 5 => .int
  | 6 => .int
  | _ => .int
abbrev wsX00 : List Cond := u_ws RX0 TX0 8
theorem nmX0 : ∀ a, a < 8 → ∀ b, b < 8 → a ≠ b → (TX0 a).2.1 ≠ (TX0 b).2.1 := by decide +kernel
theorem tyX0_ok : ∀ k, k < 8 → parseFieldDescriptor (TX0 k).2.2.1 = some (tyX0 k) := by decide +kernel
abbrev cX0_init : ByteArray := prog_2_method_1_code
def yX0_init : MethodName := ⟨RX0, "<init>", "()V"⟩
abbrev cX0_readsAll : ByteArray := prog_2_method_2_code
def yX0_readsAll : MethodName := ⟨RX0, "readsAll", "(LDueWheels$Text;)Z"⟩
abbrev cX0_readsAct : ByteArray := prog_2_method_3_code
def yX0_readsAct : MethodName := ⟨RX0, "readsAct", "(LDueWheels$Text;)Z"⟩
abbrev cX0_readsSet : ByteArray := prog_2_method_4_code
def yX0_readsSet : MethodName := ⟨RX0, "readsSet", "(LDueWheels$Text;)Z"⟩
abbrev cX0_readsLeap : ByteArray := prog_2_method_5_code
def yX0_readsLeap : MethodName := ⟨RX0, "readsLeap", "(LDueWheels$Text;)Z"⟩
abbrev cX0_keepsNumber : ByteArray := prog_2_method_6_code
def yX0_keepsNumber : MethodName := ⟨RX0, "keepsNumber", "()Z"⟩
abbrev cX0_readsNumber : ByteArray := prog_2_method_7_code
def yX0_readsNumber : MethodName := ⟨RX0, "readsNumber", "(LDueWheels$Text;III)Z"⟩
abbrev cX0_readsSign : ByteArray := prog_2_method_8_code
def yX0_readsSign : MethodName := ⟨RX0, "readsSign", "(LDueWheels$Text;I)Z"⟩
abbrev cX0_isDigit : ByteArray := prog_2_method_9_code
def yX0_isDigit : MethodName := ⟨RX0, "isDigit", "(I)Z"⟩
abbrev cX0_fails : ByteArray := prog_2_method_10_code
def yX0_fails : MethodName := ⟨RX0, "fails", "(I)Z"⟩
def RX1 : String := "DueWheels$Line"
def TX1 : u_T := fun k => match k with
  | 0 => ("DueWheels$Line", "timers", "[LDueWheels$Timer;", true)
  | _ => ("DueWheels$Line", "length", "I", false)
def tyX1 : Nat → FieldType := fun k => match k with
  | 0 => .array (.object "DueWheels$Timer")
  | _ => .int
abbrev wsX10 : List Cond := u_ws RX1 TX1 2
theorem nmX1 : ∀ a, a < 2 → ∀ b, b < 2 → a ≠ b → (TX1 a).2.1 ≠ (TX1 b).2.1 := by decide +kernel
theorem tyX1_ok : ∀ k, k < 2 → parseFieldDescriptor (TX1 k).2.2.1 = some (tyX1 k) := by decide +kernel
abbrev cX1_init : ByteArray := prog_3_method_1_code
def yX1_init : MethodName := ⟨RX1, "<init>", "()V"⟩
abbrev cX1_empty : ByteArray := prog_3_method_2_code
def yX1_empty : MethodName := ⟨RX1, "empty", "()V"⟩
abbrev cX1_at : ByteArray := prog_3_method_3_code
def yX1_at : MethodName := ⟨RX1, "at", "(I)LDueWheels$Timer;"⟩
abbrev cX1_join : ByteArray := prog_3_method_4_code
def yX1_join : MethodName := ⟨RX1, "join", "(LDueWheels$Timer;ZI)V"⟩
def RX2 : String := "DueWheels$Log"
def TX2 : u_T := fun k => match k with
  | 0 => ("DueWheels$Log", "timers", "[I", true)
  | 1 => ("DueWheels$Log", "clocks", "[I", true)
  | 2 => ("DueWheels$Log", "dues", "[I", true)
  | 3 => ("DueWheels$Log", "groups", "[I", true)
  | 4 => ("DueWheels$Log", "rangs", "[I", true)
  | 5 => ("DueWheels$Log", "kept", "I", false)
  | 6 => ("DueWheels$Log", "rangInAll", "I", false)
  | _ => ("DueWheels$Log", "nextPlace", "I", false)
def tyX2 : Nat → FieldType := fun k => match k with
  | 0 => .array .int
  | 1 => .array .int
  | 2 => .array .int
  | 3 => .array .int
  | 4 => .array .int
  | 5 => .int
  | 6 => .int
  | _ => .int
abbrev wsX20 : List Cond := u_ws RX2 TX2 8
theorem nmX2 : ∀ a, a < 8 → ∀ b, b < 8 → a ≠ b → (TX2 a).2.1 ≠ (TX2 b).2.1 := by decide +kernel
theorem tyX2_ok : ∀ k, k < 8 → parseFieldDescriptor (TX2 k).2.2.1 = some (tyX2 k) := by decide +kernel
abbrev cX2_init : ByteArray := prog_4_method_1_code
def yX2_init : MethodName := ⟨RX2, "<init>", "()V"⟩
abbrev cX2_keep : ByteArray := prog_4_method_2_code
def yX2_keep : MethodName := ⟨RX2, "keep", "(LDueWheels$Timer;I)V"⟩
abbrev cX2_placeOf : ByteArray := prog_4_method_3_code
def yX2_placeOf : MethodName := ⟨RX2, "placeOf", "(I)I"⟩
def RX3 : String := "DueWheels$Row"
def TX3 : u_T := fun k => match k with
  | 0 => ("DueWheels$Row", "numbers", "[J", true)
  | _ => ("DueWheels$Row", "length", "I", false)
def tyX3 : Nat → FieldType := fun k => match k with
  | 0 => .array .long
  | _ => .int
abbrev wsX30 : List Cond := u_ws RX3 TX3 2
theorem nmX3 : ∀ a, a < 2 → ∀ b, b < 2 → a ≠ b → (TX3 a).2.1 ≠ (TX3 b).2.1 := by decide +kernel
theorem tyX3_ok : ∀ k, k < 2 → parseFieldDescriptor (TX3 k).2.2.1 = some (tyX3 k) := by decide +kernel
abbrev cX3_init : ByteArray := prog_5_method_1_code
def yX3_init : MethodName := ⟨RX3, "<init>", "()V"⟩
abbrev cX3_empty : ByteArray := prog_5_method_2_code
def yX3_empty : MethodName := ⟨RX3, "empty", "()V"⟩
abbrev cX3_put : ByteArray := prog_5_method_3_code
def yX3_put : MethodName := ⟨RX3, "put", "(J)V"⟩
def RX4 : String := "DueWheels$Shape"
def TX4 : u_T := fun k => match k with
  | 0 => ("DueWheels$Shape", "sizes", "[I", true)
  | 1 => ("DueWheels$Shape", "spans", "[I", true)
  | 2 => ("DueWheels$Shape", "levels", "I", false)
  | _ => ("DueWheels$Shape", "whole", "I", false)
def tyX4 : Nat → FieldType := fun k => match k with
  | 0 => .array .int
  | 1 => .array .int
  | 2 => .int
  | _ => .int
abbrev wsX40 : List Cond := u_ws RX4 TX4 4
theorem nmX4 : ∀ a, a < 4 → ∀ b, b < 4 → a ≠ b → (TX4 a).2.1 ≠ (TX4 b).2.1 := by decide +kernel
theorem tyX4_ok : ∀ k, k < 4 → parseFieldDescriptor (TX4 k).2.2.1 = some (tyX4 k) := by decide +kernel
abbrev cX4_init : ByteArray := prog_6_method_1_code
def yX4_init : MethodName := ⟨RX4, "<init>", "()V"⟩
abbrev cX4_isPossible : ByteArray := prog_6_method_2_code
def yX4_isPossible : MethodName := ⟨RX4, "isPossible", "(IIII)Z"⟩
abbrev cX4_isSize : ByteArray := prog_6_method_3_code
def yX4_isSize : MethodName := ⟨RX4, "isSize", "(I)Z"⟩
abbrev cX4_isSizeOrNone : ByteArray := prog_6_method_4_code
def yX4_isSizeOrNone : MethodName := ⟨RX4, "isSizeOrNone", "(I)Z"⟩
abbrev cX4_isOf : ByteArray := prog_6_method_5_code
def yX4_isOf : MethodName := ⟨RX4, "isOf", "(IIII)Z"⟩
abbrev cX4_become : ByteArray := prog_6_method_6_code
def yX4_become : MethodName := ⟨RX4, "become", "(IIII)V"⟩
abbrev cX4_copy : ByteArray := prog_6_method_7_code
def yX4_copy : MethodName := ⟨RX4, "copy", "(LDueWheels$Shape;)V"⟩
abbrev cX4_hasLevel : ByteArray := prog_6_method_8_code
def yX4_hasLevel : MethodName := ⟨RX4, "hasLevel", "(I)Z"⟩
abbrev cX4_sizeOf : ByteArray := prog_6_method_9_code
def yX4_sizeOf : MethodName := ⟨RX4, "sizeOf", "(I)I"⟩
abbrev cX4_spanOf : ByteArray := prog_6_method_10_code
def yX4_spanOf : MethodName := ⟨RX4, "spanOf", "(I)I"⟩
abbrev cX4_levelFor : ByteArray := prog_6_method_11_code
def yX4_levelFor : MethodName := ⟨RX4, "levelFor", "(I)I"⟩
abbrev cX4_slotFor : ByteArray := prog_6_method_12_code
def yX4_slotFor : MethodName := ⟨RX4, "slotFor", "(II)I"⟩
abbrev cX4_turnTime : ByteArray := prog_6_method_13_code
def yX4_turnTime : MethodName := ⟨RX4, "turnTime", "(II)I"⟩
abbrev cX4_movesFrom : ByteArray := prog_6_method_14_code
def yX4_movesFrom : MethodName := ⟨RX4, "movesFrom", "(II)I"⟩
def RX5 : String := "DueWheels$Text"
def TX5 : u_T := fun k => match k with
  | 0 => ("DueWheels$Text", "signs", "[I", true)
  | _ => ("DueWheels$Text", "length", "I", false)
def tyX5 : Nat → FieldType := fun k => match k with
  | 0 => .array .int
  | _ => .int
abbrev wsX50 : List Cond := u_ws RX5 TX5 2
theorem nmX5 : ∀ a, a < 2 → ∀ b, b < 2 → a ≠ b → (TX5 a).2.1 ≠ (TX5 b).2.1 := by decide +kernel
theorem tyX5_ok : ∀ k, k < 2 → parseFieldDescriptor (TX5 k).2.2.1 = some (tyX5 k) := by decide +kernel
abbrev cX5_init : ByteArray := prog_7_method_1_code
def yX5_init : MethodName := ⟨RX5, "<init>", "()V"⟩
abbrev cX5_append : ByteArray := prog_7_method_2_code
def yX5_append : MethodName := ⟨RX5, "append", "(I)Z"⟩
abbrev cX5_shorten : ByteArray := prog_7_method_3_code
def yX5_shorten : MethodName := ⟨RX5, "shorten", "(I)V"⟩
abbrev cX5_at : ByteArray := prog_7_method_4_code
def yX5_at : MethodName := ⟨RX5, "at", "(I)I"⟩
def RX6 : String := "DueWheels$Timer"
def TX6 : u_T := fun k => match k with
  | 0 => ("DueWheels$Timer", "number", "I", true)
  | 1 => ("DueWheels$Timer", "isSet", "Z", false)
  | 2 => ("DueWheels$Timer", "due", "I", false)
  | 3 => ("DueWheels$Timer", "dueAsRang", "I", false)
  | 4 => ("DueWheels$Timer", "arrival", "I", false)
  | 5 => ("DueWheels$Timer", "group", "I", false)
  | 6 => ("DueWheels$Timer", "sort", "I", false)
  | 7 => ("DueWheels$Timer", "period", "I", false)
  | 8 => ("DueWheels$Timer", "times", "I", false)
  | 9 => ("DueWheels$Timer", "rang", "I", false)
  | 10 => ("DueWheels$Timer", "isSteady", "Z", false)
  | 11 => ("DueWheels$Timer", "isPaused", "Z", false)
  | 12 => ("DueWheels$Timer", "rest", "I", false)
  | 13 => ("DueWheels$Timer", "level", "I", false)
  | _ => ("DueWheels$Timer", "slot", "I", false)
def tyX6 : Nat → FieldType := fun k => match k with
  | 0 => .int
  | 1 => .boolean
  | 2 => .int
  | 3 => .int
  | 4 => .int
  | 5 => .int
  | 6 => .int
  | 7 => .int
  | 8 => .int
  | 9 => .int
  | 10 => .boolean
  | 11 => .boolean
  | 12 => .int
  | 13 => .int
  | _ => .int
abbrev wsX60 : List Cond := u_ws RX6 TX6 15
theorem nmX6 : ∀ a, a < 15 → ∀ b, b < 15 → a ≠ b → (TX6 a).2.1 ≠ (TX6 b).2.1 := by decide +kernel
theorem tyX6_ok : ∀ k, k < 15 → parseFieldDescriptor (TX6 k).2.2.1 = some (tyX6 k) := by decide +kernel
abbrev cX6_init : ByteArray := prog_8_method_1_code
def yX6_init : MethodName := ⟨RX6, "<init>", "(I)V"⟩
abbrev cX6_start : ByteArray := prog_8_method_2_code
def yX6_start : MethodName := ⟨RX6, "start", "(II)V"⟩
abbrev cX6_copy : ByteArray := prog_8_method_3_code
def yX6_copy : MethodName := ⟨RX6, "copy", "(LDueWheels$Timer;)V"⟩
abbrev cX6_isAhead : ByteArray := prog_8_method_4_code
def yX6_isAhead : MethodName := ⟨RX6, "isAhead", "(LDueWheels$Timer;ZI)Z"⟩
def RX7 : String := "DueWheels$Works"
def TX7 : u_T := fun k => match k with
  | 0 => ("DueWheels$Works", "shape", "LDueWheels$Shape;", true)
  | 1 => ("DueWheels$Works", "timers", "[LDueWheels$Timer;", true)
  | 2 => ("DueWheels$Works", "line", "LDueWheels$Line;", true)
  | 3 => ("DueWheels$Works", "clock", "I", false)
  | 4 => ("DueWheels$Works", "rule", "I", false)
  | 5 => ("DueWheels$Works", "moved", "I", false)
  | _ => ("DueWheels$Works", "missed", "I", false)
def tyX7 : Nat → FieldType := fun k => match k with
  | 0 => .object "DueWheels$Shape"
  | 1 => .array (.object "DueWheels$Timer")
  | 2 => .object "DueWheels$Line"
  | 3 => .int
  | 4 => .int
  | 5 => .int
  | _ => .int
abbrev wsX70 : List Cond := u_ws RX7 TX7 7
theorem nmX7 : ∀ a, a < 7 → ∀ b, b < 7 → a ≠ b → (TX7 a).2.1 ≠ (TX7 b).2.1 := by decide +kernel
theorem tyX7_ok : ∀ k, k < 7 → parseFieldDescriptor (TX7 k).2.2.1 = some (tyX7 k) := by decide +kernel
abbrev cX7_init : ByteArray := prog_9_method_1_code
def yX7_init : MethodName := ⟨RX7, "<init>", "()V"⟩
abbrev cX7_copy : ByteArray := prog_9_method_2_code
def yX7_copy : MethodName := ⟨RX7, "copy", "(LDueWheels$Works;)V"⟩
abbrev cX7_find : ByteArray := prog_9_method_3_code
def yX7_find : MethodName := ⟨RX7, "find", "(I)LDueWheels$Timer;"⟩
abbrev cX7_findRunning : ByteArray := prog_9_method_4_code
def yX7_findRunning : MethodName := ⟨RX7, "findRunning", "(I)LDueWheels$Timer;"⟩
abbrev cX7_leastFree : ByteArray := prog_9_method_5_code
def yX7_leastFree : MethodName := ⟨RX7, "leastFree", "()LDueWheels$Timer;"⟩
abbrev cX7_firstDue : ByteArray := prog_9_method_6_code
def yX7_firstDue : MethodName := ⟨RX7, "firstDue", "()LDueWheels$Timer;"⟩
abbrev cX7_countSet : ByteArray := prog_9_method_7_code
def yX7_countSet : MethodName := ⟨RX7, "countSet", "()I"⟩
abbrev cX7_countOn : ByteArray := prog_9_method_8_code
def yX7_countOn : MethodName := ⟨RX7, "countOn", "(I)I"⟩
abbrev cX7_countIn : ByteArray := prog_9_method_9_code
def yX7_countIn : MethodName := ⟨RX7, "countIn", "(II)I"⟩
abbrev cX7_lay : ByteArray := prog_9_method_10_code
def yX7_lay : MethodName := ⟨RX7, "lay", "(LDueWheels$Timer;)V"⟩
abbrev cX7_layAll : ByteArray := prog_9_method_11_code
def yX7_layAll : MethodName := ⟨RX7, "layAll", "()V"⟩
abbrev cX7_pause : ByteArray := prog_9_method_12_code
def yX7_pause : MethodName := ⟨RX7, "pause", "(LDueWheels$Timer;)V"⟩
abbrev cX7_resume : ByteArray := prog_9_method_13_code
def yX7_resume : MethodName := ⟨RX7, "resume", "(LDueWheels$Timer;)V"⟩
abbrev cX7_tick : ByteArray := prog_9_method_14_code
def yX7_tick : MethodName := ⟨RX7, "tick", "()V"⟩
abbrev cX7_leap : ByteArray := prog_9_method_15_code
def yX7_leap : MethodName := ⟨RX7, "leap", "(I)V"⟩
abbrev cX7_bringFarOnes : ByteArray := prog_9_method_16_code
def yX7_bringFarOnes : MethodName := ⟨RX7, "bringFarOnes", "()V"⟩
abbrev cX7_moveFrom : ByteArray := prog_9_method_17_code
def yX7_moveFrom : MethodName := ⟨RX7, "moveFrom", "(II)V"⟩
abbrev cX7_ringLine : ByteArray := prog_9_method_18_code
def yX7_ringLine : MethodName := ⟨RX7, "ringLine", "()V"⟩
abbrev cX7_ring : ByteArray := prog_9_method_19_code
def yX7_ring : MethodName := ⟨RX7, "ring", "(LDueWheels$Timer;)V"⟩
abbrev cX7_catchUp : ByteArray := prog_9_method_20_code
def yX7_catchUp : MethodName := ⟨RX7, "catchUp", "(LDueWheels$Timer;)V"⟩
def RX8 : String := "DueWheels"
def TX8 : u_T := fun k => match k with
  | 0 => ("DueWheels", "now", "LDueWheels$Works;", true)
  | 1 => ("DueWheels", "then", "LDueWheels$Works;", true)
  | 2 => ("DueWheels", "otherShape", "LDueWheels$Shape;", true)
  | 3 => ("DueWheels", "ringingOfGroups", "[I", true)
  | 4 => ("DueWheels", "row", "LDueWheels$Row;", true)
  | 5 => ("DueWheels", "log", "LDueWheels$Log;", true)
  | 6 => ("DueWheels", "text", "LDueWheels$Text;", true)
  | 7 => ("DueWheels", "acts", "LDueWheels$Acts;", true)
  | 8 => ("DueWheels", "setInAll", "I", false)
  | 9 => ("DueWheels", "cancelled", "I", false)
  | 10 => ("DueWheels", "leaptAhead", "I", false)
  | _ => ("DueWheels", "leaptBack", "I", false)
def tyX8 : Nat → FieldType := fun k => match k with
  | 0 => .object "DueWheels$Works"
  | 1 => .object "DueWheels$Works"
  | 2 => .object "DueWheels$Shape"
  | 3 => .array .int
  | 4 => .object "DueWheels$Row"
  | 5 => .object "DueWheels$Log"
  | 6 => .object "DueWheels$Text"
  | 7 => .object "DueWheels$Acts"
  | 8 => .int
  | 9 => .int
  | 10 => .int
  | _ => .int
abbrev wsX80 : List Cond := u_ws RX8 TX8 12
theorem nmX8 : ∀ a, a < 12 → ∀ b, b < 12 → a ≠ b → (TX8 a).2.1 ≠ (TX8 b).2.1 := by decide +kernel
theorem tyX8_ok : ∀ k, k < 12 → parseFieldDescriptor (TX8 k).2.2.1 = some (tyX8 k) := by decide +kernel
abbrev cX8_init : ByteArray := prog_1_method_1_code
def yX8_init : MethodName := ⟨RX8, "<init>", "()V"⟩
abbrev cX8_wheels : ByteArray := prog_1_method_2_code
def yX8_wheels : MethodName := ⟨RX8, "wheels", "(IIII)I"⟩
abbrev cX8_order : ByteArray := prog_1_method_3_code
def yX8_order : MethodName := ⟨RX8, "order", "(I)I"⟩
abbrev cX8_ticks : ByteArray := prog_1_method_4_code
def yX8_ticks : MethodName := ⟨RX8, "ticks", "(I)I"⟩
abbrev cX8_leaps : ByteArray := prog_1_method_5_code
def yX8_leaps : MethodName := ⟨RX8, "leaps", "(I)I"⟩
abbrev cX8_sets : ByteArray := prog_1_method_6_code
def yX8_sets : MethodName := ⟨RX8, "sets", "(IIIII)I"⟩
abbrev cX8_cancels : ByteArray := prog_1_method_7_code
def yX8_cancels : MethodName := ⟨RX8, "cancels", "(I)I"⟩
abbrev cX8_cancelsAll : ByteArray := prog_1_method_8_code
def yX8_cancelsAll : MethodName := ⟨RX8, "cancelsAll", "(I)I"⟩
abbrev cX8_steady : ByteArray := prog_1_method_9_code
def yX8_steady : MethodName := ⟨RX8, "steady", "(IZ)I"⟩
abbrev cX8_pauses : ByteArray := prog_1_method_10_code
def yX8_pauses : MethodName := ⟨RX8, "pauses", "(I)I"⟩
abbrev cX8_resumes : ByteArray := prog_1_method_11_code
def yX8_resumes : MethodName := ⟨RX8, "resumes", "(I)I"⟩
abbrev cX8_holds : ByteArray := prog_1_method_12_code
def yX8_holds : MethodName := ⟨RX8, "holds", "(I)I"⟩
abbrev cX8_goesOn : ByteArray := prog_1_method_13_code
def yX8_goesOn : MethodName := ⟨RX8, "goesOn", "(I)I"⟩
abbrev cX8_spreads : ByteArray := prog_1_method_14_code
def yX8_spreads : MethodName := ⟨RX8, "spreads", "(II)I"⟩
abbrev cX8_delays : ByteArray := prog_1_method_15_code
def yX8_delays : MethodName := ⟨RX8, "delays", "(II)I"⟩
abbrev cX8_run : ByteArray := prog_1_method_16_code
def yX8_run : MethodName := ⟨RX8, "run", "()I"⟩
abbrev cX8_sign : ByteArray := prog_1_method_17_code
def yX8_sign : MethodName := ⟨RX8, "sign", "(I)I"⟩
abbrev cX8_end : ByteArray := prog_1_method_18_code
def yX8_end : MethodName := ⟨RX8, "end", "(I)Z"⟩
abbrev cX8_timer : ByteArray := prog_1_method_19_code
def yX8_timer : MethodName := ⟨RX8, "timer", "(II)I"⟩
abbrev cX8_slot : ByteArray := prog_1_method_20_code
def yX8_slot : MethodName := ⟨RX8, "slot", "(II)I"⟩
abbrev cX8_far : ByteArray := prog_1_method_21_code
def yX8_far : MethodName := ⟨RX8, "far", "()I"⟩
abbrev cX8_group : ByteArray := prog_1_method_22_code
def yX8_group : MethodName := ⟨RX8, "group", "(I)I"⟩
abbrev cX8_full : ByteArray := prog_1_method_23_code
def yX8_full : MethodName := ⟨RX8, "full", "(I)I"⟩
abbrev cX8_next : ByteArray := prog_1_method_24_code
def yX8_next : MethodName := ⟨RX8, "next", "()I"⟩
abbrev cX8_rings : ByteArray := prog_1_method_25_code
def yX8_rings : MethodName := ⟨RX8, "rings", "(I)I"⟩
abbrev cX8_quiet : ByteArray := prog_1_method_26_code
def yX8_quiet : MethodName := ⟨RX8, "quiet", "(I)I"⟩
abbrev cX8_moves : ByteArray := prog_1_method_27_code
def yX8_moves : MethodName := ⟨RX8, "moves", "(I)I"⟩
abbrev cX8_cost : ByteArray := prog_1_method_28_code
def yX8_cost : MethodName := ⟨RX8, "cost", "(IIII)I"⟩
abbrev cX8_best : ByteArray := prog_1_method_29_code
def yX8_best : MethodName := ⟨RX8, "best", "(I)I"⟩
abbrev cX8_ahead : ByteArray := prog_1_method_30_code
def yX8_ahead : MethodName := ⟨RX8, "ahead", "(II)I"⟩
abbrev cX8_way : ByteArray := prog_1_method_31_code
def yX8_way : MethodName := ⟨RX8, "way", "(I)I"⟩
abbrev cX8_would : ByteArray := prog_1_method_32_code
def yX8_would : MethodName := ⟨RX8, "would", "(I)I"⟩
abbrev cX8_busiest : ByteArray := prog_1_method_33_code
def yX8_busiest : MethodName := ⟨RX8, "busiest", "(I)I"⟩
abbrev cX8_till : ByteArray := prog_1_method_34_code
def yX8_till : MethodName := ⟨RX8, "till", "(I)I"⟩
abbrev cX8_loudest : ByteArray := prog_1_method_35_code
def yX8_loudest : MethodName := ⟨RX8, "loudest", "(I)I"⟩
abbrev cX8_clashes : ByteArray := prog_1_method_36_code
def yX8_clashes : MethodName := ⟨RX8, "clashes", "(I)I"⟩
abbrev cX8_rung : ByteArray := prog_1_method_37_code
def yX8_rung : MethodName := ⟨RX8, "rung", "(I)I"⟩
abbrev cX8_told : ByteArray := prog_1_method_38_code
def yX8_told : MethodName := ⟨RX8, "told", "(I)I"⟩
abbrev cX8_count : ByteArray := prog_1_method_39_code
def yX8_count : MethodName := ⟨RX8, "count", "(I)I"⟩
abbrev cX8_row : ByteArray := prog_1_method_40_code
def yX8_row : MethodName := ⟨RX8, "row", "(I)J"⟩
abbrev cX8_isWithin : ByteArray := prog_1_method_41_code
def yX8_isWithin : MethodName := ⟨RX8, "isWithin", "(III)Z"⟩
abbrev cX8_isGroup : ByteArray := prog_1_method_42_code
def yX8_isGroup : MethodName := ⟨RX8, "isGroup", "(I)Z"⟩
abbrev cX8_isMultiple : ByteArray := prog_1_method_43_code
def yX8_isMultiple : MethodName := ⟨RX8, "isMultiple", "(II)Z"⟩
abbrev cX8_numberOf : ByteArray := prog_1_method_44_code
def yX8_numberOf : MethodName := ⟨RX8, "numberOf", "(LDueWheels$Timer;)I"⟩
abbrev cX8_refusalOfTicks : ByteArray := prog_1_method_45_code
def yX8_refusalOfTicks : MethodName := ⟨RX8, "refusalOfTicks", "(I)I"⟩
abbrev cX8_refusalOfLeap : ByteArray := prog_1_method_46_code
def yX8_refusalOfLeap : MethodName := ⟨RX8, "refusalOfLeap", "(I)I"⟩
abbrev cX8_keepWhatRang : ByteArray := prog_1_method_47_code
def yX8_keepWhatRang : MethodName := ⟨RX8, "keepWhatRang", "()I"⟩
abbrev cX8_tellLatest : ByteArray := prog_1_method_48_code
def yX8_tellLatest : MethodName := ⟨RX8, "tellLatest", "(IZ)V"⟩
abbrev cX8_tellLine : ByteArray := prog_1_method_49_code
def yX8_tellLine : MethodName := ⟨RX8, "tellLine", "(LDueWheels$Line;)V"⟩
abbrev cX8_tellWhatRings : ByteArray := prog_1_method_50_code
def yX8_tellWhatRings : MethodName := ⟨RX8, "tellWhatRings", "(I)V"⟩
abbrev cX8_putApart : ByteArray := prog_1_method_51_code
def yX8_putApart : MethodName := ⟨RX8, "putApart", "(LDueWheels$Line;I)I"⟩
abbrev cX8_movesBy : ByteArray := prog_1_method_52_code
def yX8_movesBy : MethodName := ⟨RX8, "movesBy", "(LDueWheels$Shape;)I"⟩
abbrev cX8_countGroups : ByteArray := prog_1_method_53_code
def yX8_countGroups : MethodName := ⟨RX8, "countGroups", "(LDueWheels$Line;[I)V"⟩
abbrev cX8_does : ByteArray := prog_1_method_54_code
def yX8_does : MethodName := ⟨RX8, "does", "(I)Z"⟩
def RX9 : String := "DueWheelsModel"
def TX9 : u_T := fun k => match k with
  | 0 => ("DueWheelsModel", "thrown", "I", false)
  | 1 => ("DueWheelsModel", "told", "I", false)
  | 2 => ("DueWheelsModel", "row", "[J", true)
  | 3 => ("DueWheelsModel", "tape", "[I", true)
  | 4 => ("DueWheelsModel", "taped", "I", false)
  | 5 => ("DueWheelsModel", "at", "I", false)
  | 6 => ("DueWheelsModel", "to", "I", false)
  | 7 => ("DueWheelsModel", "mem", "[I", true)
  | 8 => ("DueWheelsModel", "desk", "I", false)
  | 9 => ("DueWheelsModel", "line", "[I", true)
  | 10 => ("DueWheelsModel", "lineMany", "I", false)
  | 11 => ("DueWheelsModel", "heard", "[I", true)
  | 12 => ("DueWheelsModel", "heardWith", "[I", true)
  | 13 => ("DueWheelsModel", "heardMany", "I", false)
  | 14 => ("DueWheelsModel", "wish", "[I", true)
  | 15 => ("DueWheelsModel", "act", "[I", true)
  | 16 => ("DueWheelsModel", "wayClock", "[I", true)
  | 17 => ("DueWheelsModel", "wayLevel", "[I", true)
  | 18 => ("DueWheelsModel", "costFar", "I", false)
  | 19 => ("DueWheelsModel", "costMost", "I", false)
  | _ => ("DueWheelsModel", "byGroup", "[I", true)
def tyX9 : Nat → FieldType := fun k => match k with
  | 0 => .int
  | 1 => .int
  | 2 => .array .long
  | 3 => .array .int
  | 4 => .int
  | 5 => .int
  | 6 => .int
  | 7 => .array .int
  | 8 => .int
  | 9 => .array .int
  | 10 => .int
  | 11 => .array .int
  | 12 => .array .int
  | 13 => .int
  | 14 => .array .int
  | 15 => .array .int
  | 16 => .array .int
  | 17 => .array .int
  | 18 => .int
  | 19 => .int
  | _ => .array .int
abbrev wsX90 : List Cond := u_ws RX9 TX9 21
theorem nmX9 : ∀ a, a < 21 → ∀ b, b < 21 → a ≠ b → (TX9 a).2.1 ≠ (TX9 b).2.1 := by decide +kernel
theorem tyX9_ok : ∀ k, k < 21 → parseFieldDescriptor (TX9 k).2.2.1 = some (tyX9 k) := by decide +kernel
abbrev cX9_thrown : ByteArray := prog_11_method_1_code
def yX9_thrown : MethodName := ⟨RX9, "thrown", "()I"⟩
abbrev cX9_in : ByteArray := prog_11_method_2_code
def yX9_in : MethodName := ⟨RX9, "in", "(JJJ)Z"⟩
abbrev cX9_flag : ByteArray := prog_11_method_3_code
def yX9_flag : MethodName := ⟨RX9, "flag", "(Z)I"⟩
abbrev cX9_enters : ByteArray := prog_11_method_4_code
def yX9_enters : MethodName := ⟨RX9, "enters", "(J)V"⟩
abbrev cX9_sign : ByteArray := prog_11_method_5_code
def yX9_sign : MethodName := ⟨RX9, "sign", "(I)I"⟩
abbrev cX9_end : ByteArray := prog_11_method_6_code
def yX9_end : MethodName := ⟨RX9, "end", "(I)Z"⟩
abbrev cX9_takes : ByteArray := prog_11_method_7_code
def yX9_takes : MethodName := ⟨RX9, "takes", "(I)Z"⟩
abbrev cX9_isDigit : ByteArray := prog_11_method_8_code
def yX9_isDigit : MethodName := ⟨RX9, "isDigit", "()Z"⟩
abbrev cX9_number : ByteArray := prog_11_method_9_code
def yX9_number : MethodName := ⟨RX9, "number", "(III)I"⟩
abbrev cX9_init : ByteArray := prog_11_method_10_code
def yX9_init : MethodName := ⟨RX9, "<init>", "()V"⟩
abbrev cX9_of : ByteArray := prog_11_method_11_code
def yX9_of : MethodName := ⟨RX9, "of", "(I)I"⟩
abbrev cX9_puts : ByteArray := prog_11_method_12_code
def yX9_puts : MethodName := ⟨RX9, "puts", "(II)V"⟩
abbrev cX9_more : ByteArray := prog_11_method_13_code
def yX9_more : MethodName := ⟨RX9, "more", "(II)V"⟩
abbrev cX9_tries : ByteArray := prog_11_method_14_code
def yX9_tries : MethodName := ⟨RX9, "tries", "()V"⟩
abbrev cX9_isBack : ByteArray := prog_11_method_15_code
def yX9_isBack : MethodName := ⟨RX9, "isBack", "()V"⟩
abbrev cX9_isTimer : ByteArray := prog_11_method_16_code
def yX9_isTimer : MethodName := ⟨RX9, "isTimer", "(I)Z"⟩
abbrev cX9_goes : ByteArray := prog_11_method_17_code
def yX9_goes : MethodName := ⟨RX9, "goes", "(I)Z"⟩
abbrev cX9_span : ByteArray := prog_11_method_18_code
def yX9_span : MethodName := ⟨RX9, "span", "(I)I"⟩
abbrev cX9_whole : ByteArray := prog_11_method_19_code
def yX9_whole : MethodName := ⟨RX9, "whole", "()I"⟩
abbrev cX9_levelFor : ByteArray := prog_11_method_20_code
def yX9_levelFor : MethodName := ⟨RX9, "levelFor", "(I)I"⟩
abbrev cX9_lays : ByteArray := prog_11_method_21_code
def yX9_lays : MethodName := ⟨RX9, "lays", "(I)V"⟩
abbrev cX9_laysAll : ByteArray := prog_11_method_22_code
def yX9_laysAll : MethodName := ⟨RX9, "laysAll", "()V"⟩
abbrev cX9_moves1 : ByteArray := prog_11_method_23_code
def yX9_moves1 : MethodName := ⟨RX9, "moves1", "(I)V"⟩
abbrev cX9_isAhead : ByteArray := prog_11_method_24_code
def yX9_isAhead : MethodName := ⟨RX9, "isAhead", "(II)Z"⟩
abbrev cX9_queues : ByteArray := prog_11_method_25_code
def yX9_queues : MethodName := ⟨RX9, "queues", "(IZ)V"⟩
abbrev cX9_isSooner : ByteArray := prog_11_method_26_code
def yX9_isSooner : MethodName := ⟨RX9, "isSooner", "(IIZ)Z"⟩
abbrev cX9_keepsRung : ByteArray := prog_11_method_27_code
def yX9_keepsRung : MethodName := ⟨RX9, "keepsRung", "(I)V"⟩
abbrev cX9_comesAgain : ByteArray := prog_11_method_28_code
def yX9_comesAgain : MethodName := ⟨RX9, "comesAgain", "(I)V"⟩
abbrev cX9_ringsAll : ByteArray := prog_11_method_29_code
def yX9_ringsAll : MethodName := ⟨RX9, "ringsAll", "(Z)V"⟩
abbrev cX9_tick : ByteArray := prog_11_method_30_code
def yX9_tick : MethodName := ⟨RX9, "tick", "()V"⟩
abbrev cX9_tellsLatest : ByteArray := prog_11_method_31_code
def yX9_tellsLatest : MethodName := ⟨RX9, "tellsLatest", "()V"⟩
abbrev cX9_tellsFirst : ByteArray := prog_11_method_32_code
def yX9_tellsFirst : MethodName := ⟨RX9, "tellsFirst", "()V"⟩
abbrev cX9_ticksOf : ByteArray := prog_11_method_33_code
def yX9_ticksOf : MethodName := ⟨RX9, "ticksOf", "(I)I"⟩
abbrev cX9_leapsBy : ByteArray := prog_11_method_34_code
def yX9_leapsBy : MethodName := ⟨RX9, "leapsBy", "(I)I"⟩
abbrev cX9_wishes : ByteArray := prog_11_method_35_code
def yX9_wishes : MethodName := ⟨RX9, "wishes", "(IIII)I"⟩
abbrev cX9_isAsWished : ByteArray := prog_11_method_36_code
def yX9_isAsWished : MethodName := ⟨RX9, "isAsWished", "(I)Z"⟩
abbrev cX9_laysWished : ByteArray := prog_11_method_37_code
def yX9_laysWished : MethodName := ⟨RX9, "laysWished", "(I)V"⟩
abbrev cX9_wheels : ByteArray := prog_11_method_38_code
def yX9_wheels : MethodName := ⟨RX9, "wheels", "(IIII)I"⟩
abbrev cX9_order : ByteArray := prog_11_method_39_code
def yX9_order : MethodName := ⟨RX9, "order", "(I)I"⟩
abbrev cX9_ticks : ByteArray := prog_11_method_40_code
def yX9_ticks : MethodName := ⟨RX9, "ticks", "(I)I"⟩
abbrev cX9_isLeap : ByteArray := prog_11_method_41_code
def yX9_isLeap : MethodName := ⟨RX9, "isLeap", "(I)Z"⟩
abbrev cX9_leaps : ByteArray := prog_11_method_42_code
def yX9_leaps : MethodName := ⟨RX9, "leaps", "(I)I"⟩
abbrev cX9_many : ByteArray := prog_11_method_43_code
def yX9_many : MethodName := ⟨RX9, "many", "()I"⟩
abbrev cX9_setsOne : ByteArray := prog_11_method_44_code
def yX9_setsOne : MethodName := ⟨RX9, "setsOne", "(IIIII)I"⟩
abbrev cX9_sets : ByteArray := prog_11_method_45_code
def yX9_sets : MethodName := ⟨RX9, "sets", "(IIIII)I"⟩
abbrev cX9_cancelsOne : ByteArray := prog_11_method_46_code
def yX9_cancelsOne : MethodName := ⟨RX9, "cancelsOne", "(I)I"⟩
abbrev cX9_cancels : ByteArray := prog_11_method_47_code
def yX9_cancels : MethodName := ⟨RX9, "cancels", "(I)I"⟩
abbrev cX9_cancelsAll : ByteArray := prog_11_method_48_code
def yX9_cancelsAll : MethodName := ⟨RX9, "cancelsAll", "(I)I"⟩
abbrev cX9_steady : ByteArray := prog_11_method_49_code
def yX9_steady : MethodName := ⟨RX9, "steady", "(IZ)I"⟩
abbrev cX9_pauses : ByteArray := prog_11_method_50_code
def yX9_pauses : MethodName := ⟨RX9, "pauses", "(I)I"⟩
abbrev cX9_resumes : ByteArray := prog_11_method_51_code
def yX9_resumes : MethodName := ⟨RX9, "resumes", "(I)I"⟩
abbrev cX9_delays : ByteArray := prog_11_method_52_code
def yX9_delays : MethodName := ⟨RX9, "delays", "(II)I"⟩
abbrev cX9_isGroup : ByteArray := prog_11_method_53_code
def yX9_isGroup : MethodName := ⟨RX9, "isGroup", "(I)Z"⟩
abbrev cX9_pausesOne : ByteArray := prog_11_method_54_code
def yX9_pausesOne : MethodName := ⟨RX9, "pausesOne", "(I)V"⟩
abbrev cX9_resumesOne : ByteArray := prog_11_method_55_code
def yX9_resumesOne : MethodName := ⟨RX9, "resumesOne", "(I)V"⟩
abbrev cX9_holds : ByteArray := prog_11_method_56_code
def yX9_holds : MethodName := ⟨RX9, "holds", "(I)I"⟩
abbrev cX9_goesOn : ByteArray := prog_11_method_57_code
def yX9_goesOn : MethodName := ⟨RX9, "goesOn", "(I)I"⟩
abbrev cX9_spreads : ByteArray := prog_11_method_58_code
def yX9_spreads : MethodName := ⟨RX9, "spreads", "(II)I"⟩
abbrev cX9_readsAct : ByteArray := prog_11_method_59_code
def yX9_readsAct : MethodName := ⟨RX9, "readsAct", "(I)Z"⟩
abbrev cX9_doesAct : ByteArray := prog_11_method_60_code
def yX9_doesAct : MethodName := ⟨RX9, "doesAct", "(I)I"⟩
abbrev cX9_run : ByteArray := prog_11_method_61_code
def yX9_run : MethodName := ⟨RX9, "run", "()I"⟩
abbrev cX9_timer : ByteArray := prog_11_method_62_code
def yX9_timer : MethodName := ⟨RX9, "timer", "(II)I"⟩
abbrev cX9_tellsLine : ByteArray := prog_11_method_63_code
def yX9_tellsLine : MethodName := ⟨RX9, "tellsLine", "()V"⟩
abbrev cX9_slot : ByteArray := prog_11_method_64_code
def yX9_slot : MethodName := ⟨RX9, "slot", "(II)I"⟩
abbrev cX9_far : ByteArray := prog_11_method_65_code
def yX9_far : MethodName := ⟨RX9, "far", "()I"⟩
abbrev cX9_group : ByteArray := prog_11_method_66_code
def yX9_group : MethodName := ⟨RX9, "group", "(I)I"⟩
abbrev cX9_full : ByteArray := prog_11_method_67_code
def yX9_full : MethodName := ⟨RX9, "full", "(I)I"⟩
abbrev cX9_next : ByteArray := prog_11_method_68_code
def yX9_next : MethodName := ⟨RX9, "next", "()I"⟩
abbrev cX9_rings : ByteArray := prog_11_method_69_code
def yX9_rings : MethodName := ⟨RX9, "rings", "(I)I"⟩
abbrev cX9_quiet : ByteArray := prog_11_method_70_code
def yX9_quiet : MethodName := ⟨RX9, "quiet", "(I)I"⟩
abbrev cX9_ways : ByteArray := prog_11_method_71_code
def yX9_ways : MethodName := ⟨RX9, "ways", "(II)I"⟩
abbrev cX9_movesOf : ByteArray := prog_11_method_72_code
def yX9_movesOf : MethodName := ⟨RX9, "movesOf", "(I)I"⟩
abbrev cX9_moves : ByteArray := prog_11_method_73_code
def yX9_moves : MethodName := ⟨RX9, "moves", "(I)I"⟩
abbrev cX9_way : ByteArray := prog_11_method_74_code
def yX9_way : MethodName := ⟨RX9, "way", "(I)I"⟩
abbrev cX9_costOf : ByteArray := prog_11_method_75_code
def yX9_costOf : MethodName := ⟨RX9, "costOf", "(I)I"⟩
abbrev cX9_cost : ByteArray := prog_11_method_76_code
def yX9_cost : MethodName := ⟨RX9, "cost", "(IIII)I"⟩
abbrev cX9_best : ByteArray := prog_11_method_77_code
def yX9_best : MethodName := ⟨RX9, "best", "(I)I"⟩
abbrev cX9_ahead : ByteArray := prog_11_method_78_code
def yX9_ahead : MethodName := ⟨RX9, "ahead", "(II)I"⟩
abbrev cX9_would : ByteArray := prog_11_method_79_code
def yX9_would : MethodName := ⟨RX9, "would", "(I)I"⟩
abbrev cX9_busiest : ByteArray := prog_11_method_80_code
def yX9_busiest : MethodName := ⟨RX9, "busiest", "(I)I"⟩
abbrev cX9_loudest : ByteArray := prog_11_method_81_code
def yX9_loudest : MethodName := ⟨RX9, "loudest", "(I)I"⟩
abbrev cX9_clashes : ByteArray := prog_11_method_82_code
def yX9_clashes : MethodName := ⟨RX9, "clashes", "(I)I"⟩
abbrev cX9_till : ByteArray := prog_11_method_83_code
def yX9_till : MethodName := ⟨RX9, "till", "(I)I"⟩
abbrev cX9_rung : ByteArray := prog_11_method_84_code
def yX9_rung : MethodName := ⟨RX9, "rung", "(I)I"⟩
abbrev cX9_told : ByteArray := prog_11_method_85_code
def yX9_told : MethodName := ⟨RX9, "told", "(I)I"⟩
abbrev cX9_pausedMany : ByteArray := prog_11_method_86_code
def yX9_pausedMany : MethodName := ⟨RX9, "pausedMany", "()I"⟩
abbrev cX9_farMany : ByteArray := prog_11_method_87_code
def yX9_farMany : MethodName := ⟨RX9, "farMany", "()I"⟩
abbrev cX9_count : ByteArray := prog_11_method_88_code
def yX9_count : MethodName := ⟨RX9, "count", "(I)I"⟩
abbrev cX9_row : ByteArray := prog_11_method_89_code
def yX9_row : MethodName := ⟨RX9, "row", "(I)J"⟩
def RJx145de : String := "java/io/Serializable"
def TJx145de : u_T := fun k => match k with
  | _ => ("", "", "", false)
def tyJx145de : Nat → FieldType := fun k => match k with
  | _ => .int
abbrev wsJx145de0 : List Cond := u_ws RJx145de TJx145de 0
theorem nmJx145de : ∀ a, a < 0 → ∀ b, b < 0 → a ≠ b → (TJx145de a).2.1 ≠ (TJx145de b).2.1 := by decide +kernel
theorem tyJx145de_ok : ∀ k, k < 0 → parseFieldDescriptor (TJx145de k).2.2.1 = some (tyJx145de k) := by decide +kernel
def RJ9 : String := "java/lang/Math"
def TJ9 : u_T := fun k => match k with
  | _ => ("", "", "", false)
def tyJ9 : Nat → FieldType := fun k => match k with
  | _ => .int
abbrev wsJ90 : List Cond := u_ws RJ9 TJ9 0
theorem nmJ9 : ∀ a, a < 0 → ∀ b, b < 0 → a ≠ b → (TJ9 a).2.1 ≠ (TJ9 b).2.1 := by decide +kernel
theorem tyJ9_ok : ∀ k, k < 0 → parseFieldDescriptor (TJ9 k).2.2.1 = some (tyJ9 k) := by decide +kernel
abbrev cJ9_floorMod_7cf53 : ByteArray := prog_14_method_50_code
def yJ9_floorMod_7cf53 : MethodName := ⟨RJ9, "floorMod", "(II)I"⟩
abbrev cJ9_abs_0f7a4 : ByteArray := prog_14_method_59_code
def yJ9_abs_0f7a4 : MethodName := ⟨RJ9, "abs", "(I)I"⟩
abbrev cJ9_max_7cf53 : ByteArray := prog_14_method_65_code
def yJ9_max_7cf53 : MethodName := ⟨RJ9, "max", "(II)I"⟩
abbrev cJ9_min_7cf53 : ByteArray := prog_14_method_69_code
def yJ9_min_7cf53 : MethodName := ⟨RJ9, "min", "(II)I"⟩
def RJ7 : String := "java/util/Arrays"
def TJ7 : u_T := fun k => match k with
  | _ => ("", "", "", false)
def tyJ7 : Nat → FieldType := fun k => match k with
  | _ => .int
abbrev wsJ70 : List Cond := u_ws RJ7 TJ7 0
theorem nmJ7 : ∀ a, a < 0 → ∀ b, b < 0 → a ≠ b → (TJ7 a).2.1 ≠ (TJ7 b).2.1 := by decide +kernel
theorem tyJ7_ok : ∀ k, k < 0 → parseFieldDescriptor (TJ7 k).2.2.1 = some (tyJ7 k) := by decide +kernel
abbrev cJ7_fill_53178 : ByteArray := prog_17_method_103_code
def yJ7_fill_53178 : MethodName := ⟨RJ7, "fill", "([II)V"⟩
def RL : String := "DueWheelsLaw"
abbrev cL_timer : ByteArray := method_3_code
def yL_timer : MethodName := ⟨RL, "timer", "(LDueWheels;II[J)I"⟩
abbrev cL_row : ByteArray := method_4_code
def yL_row : MethodName := ⟨RL, "row", "(LDueWheels;I[J)I"⟩
abbrev cL_law : ByteArray := code
def yL_law : MethodName := ⟨RL, "law", "([I)Z"⟩
abbrev vwCl : List vw_C := [(RX0, TX0, 8), (RX1, TX1, 2), (RX2, TX2, 8), (RX3, TX3, 2), (RX4, TX4, 4), (RX5, TX5, 2), (RX6, TX6, 15), (RX7, TX7, 7), (RX8, TX8, 12), (RX9, TX9, 21)]
end
section
/-! OUR OWN JUDGEMENT: the world is a fixed set of cells; what they hold is a memory of ints, longs and timers' references by (place, slot); V is W over that memory. -/
def gw : List Cond := lw_tbl.filter goodWord
theorem gw_good {w : Cond} (h : w ∈ gw) : (w.onTables && w.keeps) = true ∨ ∃ ty, w = .arrayClass ty := good_of_word (List.mem_filter.mp h).2
theorem gw_of {w : Cond} (h : w ∈ lw_tbl) (hg : goodWord w = true) : w ∈ gw := List.mem_filter.mpr ⟨h, hg⟩
theorem gw_at {w : Cond} (i : Nat) (h : tables_1[i]? = some w) (hg : goodWord w = true) : w ∈ gw := gw_of (List.mem_append_right _ (List.mem_of_getElem? h)) hg
theorem gw_pr {w : Cond} (i : Nat) (h : (k2_sels lw_privs)[i]? = some w) (hg : goodWord w = true) : w ∈ gw := gw_of (List.mem_append_left _ (List.mem_of_getElem? h)) hg
/-- the memory: ints (booleans too), longs, references of the lines -/
abbrev Mm : Type := (Nat → Nat → Int32) × (Nat → Nat → Int64) × (Nat → Nat → Option Nat)
def up2 {α : Type} (f : Nat → Nat → α) (a j : Nat) (v : α) : Nat → Nat → α := fun x y => if x = a ∧ y = j then v else f x y
theorem up2_self {α : Type} (f : Nat → Nat → α) (a j : Nat) (v : α) : up2 f a j v a j = v := by simp [up2]
theorem up2_ne {α : Type} (f : Nat → Nat → α) {a j x y : Nat} (v : α) (h : x ≠ a ∨ y ≠ j) : up2 f a j v x y = f x y := by
  unfold up2
  split
  · next q => exact absurd q (by rintro ⟨q1, q2⟩; rcases h with h | h <;> contradiction)
  · rfl
def wI (σ : Mm) (a j : Nat) (v : Int32) : Mm := (up2 σ.1 a j v, σ.2)
def wL (σ : Mm) (a j : Nat) (v : Int64) : Mm := (σ.1, up2 σ.2.1 a j v, σ.2.2)
def wT (σ : Mm) (a j : Nat) (v : Option Nat) : Mm := (σ.1, σ.2.1, up2 σ.2.2 a j v)
/-- the shape: which places there are, their kinds (0 .. 9 objects, 10 ints, 11 longs, 12 a line's row, 13 a row of timers that stays), lengths, references that stay -/
abbrev Sh : Type := List Nat × (Nat → Nat) × (Nat → Nat) × (Nat → Nat → Option Nat)
/-- the launch, the first address of ours, addresses of places and back, classes, slots -/
abbrev Wp : Type := Launch × Nat × (Nat → Nat) × (Nat → Nat) × va_G × ClassId × ClassId × ClassId
abbrev Wp.l (w : Wp) : Launch := w.1
abbrev Wp.B (w : Wp) : Nat := w.2.1
abbrev Wp.ad (w : Wp) : Nat → Nat := w.2.2.1
abbrev Wp.un (w : Wp) : Nat → Nat := w.2.2.2.1
abbrev Wp.D (w : Wp) : va_G := w.2.2.2.2.1
abbrev Wp.ty (w : Wp) : List (ClassId × FieldType) := [(w.2.2.2.2.2.1, .int), (w.2.2.2.2.2.2.1, .long), (w.2.2.2.2.2.2.2, .object RX6)]
def nf (k : Nat) : Nat := match k with
  | 0 => 8 | 1 => 2 | 2 => 8 | 3 => 2 | 4 => 4 | 5 => 2 | 6 => 15 | 7 => 7 | 8 => 12 | 9 => 21 | _ => 0
def RXn (k : Nat) : String := match k with
  | 0 => RX0 | 1 => RX1 | 2 => RX2 | 3 => RX3 | 4 => RX4 | 5 => RX5 | 6 => RX6 | 7 => RX7 | 8 => RX8 | _ => RX9
def TXn (k : Nat) : u_T := match k with
  | 0 => TX0 | 1 => TX1 | 2 => TX2 | 3 => TX3 | 4 => TX4 | 5 => TX5 | 6 => TX6 | 7 => TX7 | 8 => TX8 | _ => TX9
def tyXn (k : Nat) : Nat → FieldType := match k with
  | 0 => tyX0 | 1 => tyX1 | 2 => tyX2 | 3 => tyX3 | 4 => tyX4 | 5 => tyX5 | 6 => tyX6 | 7 => tyX7 | 8 => tyX8 | _ => tyX9
def cvv (w : Wp) (v : Value) : Value := match v with
  | .ref a => .ref (w.ad a)
  | v => v
def cvl (w : Wp) (q : Nat × Value) : Nat × Value := (q.1, cvv w q.2)
def fvv (S : Sh) (w : Wp) (σ : Mm) (a j : Nat) : Value := match S.2.2.2 a j with
  | some t => .ref (w.ad t)
  | none => .int (σ.1 a j)
def trr (S : Sh) (σ : Mm) (a j : Nat) : Option Nat := if S.2.1 a = 12 then σ.2.2 a j else some (a + 3 + j)
def cll (S : Sh) (w : Wp) (σ : Mm) (a : Nat) : va_E :=
  if S.2.1 a < 10 then .inr (S.2.1 a, (List.range (nf (S.2.1 a))).map (fvv S w σ a))
  else if S.2.1 a = 10 then .inl (w.2.2.2.2.2.1, S.2.2.1 a, .inl (σ.1 a))
  else if S.2.1 a = 11 then .inl (w.2.2.2.2.2.2.1, S.2.2.1 a, .inr (.inl (σ.2.1 a)))
  else .inl (w.2.2.2.2.2.2.2, S.2.2.1 a, .inr (.inr (.inr (.inr (fun j => (trr S σ a j).map w.ad)))))
def Wws (S : Sh) (w : Wp) (σ : Mm) : va_W := va_pl (S.1.map w.ad) (fun c => cll S w σ (w.un c))
def WH (S : Sh) (w : Wp) (σ : Mm) (H : Heap) : Prop := va_P w.D vwCl (Wws S w σ) H
/-- shape and addresses fit -/
def Fit (S : Sh) (w : Wp) : Prop := S.1.Nodup ∧ (∀ a, S.2.1 a < 14 → a ∈ S.1) ∧ ∀ a ∈ S.1, w.un (w.ad a) = a ∧ w.B ≤ w.ad a
def Aw (w : Wp) : Nat → Prop := fun q => w.B ≤ q
theorem Wws_get {S : Sh} {w : Wp} (hf : Fit S w) (σ : Mm) {a : Nat} (ha : a ∈ S.1) : ∃ k : Nat, (Wws S w σ)[k]? = some (w.ad a, cll S w σ a) := by
  obtain ⟨k, hk⟩ := va_pl_get (X := []) (L := S.1.map w.ad) (f := fun c => cll S w σ (w.un c)) (List.mem_map.mpr ⟨a, ha, rfl⟩)
  refine ⟨k, ?_⟩
  have hk' : (va_pl (S.1.map w.ad) (fun c => cll S w σ (w.un c)))[k]? = some (w.ad a, cll S w σ (w.un (w.ad a))) := hk
  rw [(hf.2.2 a ha).1] at hk'
  exact hk'
theorem Wws_inj {S : Sh} {w : Wp} (hf : Fit S w) {a b : Nat} (ha : a ∈ S.1) (hb : b ∈ S.1) (h : w.ad a = w.ad b) : a = b := by
  rw [← (hf.2.2 a ha).1, h, (hf.2.2 b hb).1]
theorem Wws_D {S : Sh} {w : Wp} (hf : Fit S w) (σ : Mm) : va_D (Aw w) (Wws S w σ) := by
  have key : ∀ (k : Nat) (q : Nat × va_E), (Wws S w σ)[k]? = some q → ∃ a, S.1[k]? = some a ∧ q.1 = w.ad a := by
    intro k q hk
    unfold Wws va_pl at hk
    rw [List.getElem?_map, List.getElem?_map] at hk
    cases hs : S.1[k]? with
    | none => rw [hs] at hk; cases hk
    | some a => rw [hs] at hk; cases hk; exact ⟨a, rfl, rfl⟩
  refine ⟨fun i j p q hi hj hpq => ?_, fun k q hk => ?_⟩
  · obtain ⟨a, ha, ea⟩ := key i p hi
    obtain ⟨b, hb, eb⟩ := key j q hj
    have hab : a = b := Wws_inj hf (List.mem_of_getElem? ha) (List.mem_of_getElem? hb) (by rw [← ea, ← eb]; exact hpq)
    subst hab
    have hi' := (List.getElem?_eq_some_iff.mp ha).1
    exact (List.getElem?_inj hi' hf.1).mp (ha.trans hb.symm)
  · obtain ⟨a, ha, ea⟩ := key k q hk
    show w.B ≤ q.1
    rw [ea]
    exact (hf.2.2 a (List.mem_of_getElem? ha)).2
/-- a cell that changes: the world with it is the new memory's -/
theorem Wws_set {S : Sh} {w : Wp} (hf : Fit S w) {σ σ' : Mm} {a k : Nat} (ha : a ∈ S.1) (hk : (Wws S w σ)[k]? = some (w.ad a, cll S w σ a)) (ho : ∀ b, b ≠ a → cll S w σ' b = cll S w σ b) : (Wws S w σ).set k (w.ad a, cll S w σ' a) = Wws S w σ' := by
  have hD := Wws_D hf σ
  have hk2 : ([] ++ va_pl (S.1.map w.ad) (fun c => cll S w σ (w.un c)))[k]? = some (w.ad a, (fun c => cll S w σ (w.un c)) (w.ad a)) := by
    show (Wws S w σ)[k]? = some (w.ad a, cll S w σ (w.un (w.ad a)))
    rw [(hf.2.2 a ha).1]
    exact hk
  have h := va_pl_set (X := []) (e := cll S w σ' a) hD (List.mem_map.mpr ⟨a, ha, rfl⟩) hk2
  refine Eq.trans h ?_
  show va_pl _ _ = va_pl _ _
  unfold va_pl
  rw [List.map_map, List.map_map]
  apply List.map_congr_left
  intro b hb
  show (w.ad b, va_up _ (w.ad a) _ (w.ad b)) = (w.ad b, cll S w σ' (w.un (w.ad b)))
  rw [(hf.2.2 b hb).1]
  by_cases hab : b = a
  · subst hab
    rw [va_up_self]
  · rw [va_up_ne _ _ (fun q => hab (Wws_inj hf hb ha q))]
    show (w.ad b, cll S w σ (w.un (w.ad b))) = _
    rw [(hf.2.2 b hb).1, ho b hab]
/-- the method's fixed part: program, env, room, start, itself, arguments, frames below, final predicate -/
abbrev Cx : Type := Program × Env × Room × State × MethodId × Array Value × List Frame × Method × Code × (State → Prop)
abbrev Cx.p (x : Cx) : Program := x.1
abbrev Cx.e (x : Cx) : Env := x.2.1
abbrev Cx.R (x : Cx) : Room := x.2.2.1
abbrev Cx.s (x : Cx) : State := x.2.2.2.1
abbrev Cx.m (x : Cx) : MethodId := x.2.2.2.2.1
abbrev Cx.a (x : Cx) : Array Value := x.2.2.2.2.2.1
abbrev Cx.b (x : Cx) : List Frame := x.2.2.2.2.2.2.1
abbrev Cx.me (x : Cx) : Method := x.2.2.2.2.2.2.2.1
abbrev Cx.c (x : Cx) : Code := x.2.2.2.2.2.2.2.2.1
abbrev Cx.F (x : Cx) : State → Prop := x.2.2.2.2.2.2.2.2.2
/-- the words of links to nest mates -/
def isNest (w : Cond) : Prop := ∃ a i y h, w = .methodLinkNest a i y h
def nws : List Cond := lw_tbl.filter (fun w => match w with | .methodLinkNest _ _ _ _ => true | _ => false)
theorem nws_nest {w : Cond} (h : w ∈ nws) : isNest w := by
  have h2 := (List.mem_filter.mp h).2
  cases w <;> first | exact ⟨_, _, _, _, rfl⟩ | (exact absurd h2 (by simp))
abbrev Md : Type := MethodName × ByteArray × Nat × Option FieldType
def Ok (S : Sh) (w : Wp) (x : Cx) (own : String) (M : Md) : Prop := Fit S w ∧ CallFix x.p x.m x.c M.2.1 M.2.2.1 x.s x.a gw own ∧ va_K w.D vwCl w.ty x.s ∧ ∀ n ∈ nws, va_Nw n x.s
/-- at pc, with locals, stack and memory: the machine comes to its end -/
def V (S : Sh) (w : Wp) (x : Cx) (M : Md) (cn : Nat × Nat) (pc : Nat) (ls : List (Nat × Value)) (st : List Value) (σ : Mm) : Prop :=
  ∀ (H : Heap) (locs : List Loc) (la : Array Slot), WH S w σ H → va_S (Aw w) x.s.heap H locs → lv_has la M.2.2.1 (ls.map (cvl w)) → W x.p w.l x.e x.R x.s x.m x.a x.b x.me x.c H locs cn.1 cn.2 x.F (F0 x.m pc la (st.map (cvv w)))
def st1 (ls : List (Nat × Value)) (i : Nat) (v : Value) : List (Nat × Value) := (i, v) :: ls.filter (fun q => !(q.1 == i) && !(q.1 + 1 == i && q.2.category == 2))
def st2 (ls : List (Nat × Value)) (i : Nat) (v : Value) : List (Nat × Value) := (i, v) :: ls.filter (fun q => !(q.1 == i) && (!(q.1 == i + 1) && !(q.1 + 1 == i && q.2.category == 2)))
theorem cvv_cat (w : Wp) (v : Value) : (cvv w v).category = v.category := by cases v <;> rfl
theorem st1_map (w : Wp) (ls : List (Nat × Value)) (i : Nat) (v : Value) : (st1 ls i v).map (cvl w) = (i, cvv w v) :: (ls.map (cvl w)).filter (fun q => !(q.1 == i) && !(q.1 + 1 == i && q.2.category == 2)) := by
  show cvl w (i, v) :: _ = _
  congr 1
  rw [List.filter_map]
  congr 1
  apply List.filter_congr
  intro q _
  simp [cvl, cvv_cat]
theorem st2_map (w : Wp) (ls : List (Nat × Value)) (i : Nat) (v : Value) : (st2 ls i v).map (cvl w) = (i, cvv w v) :: (ls.map (cvl w)).filter (fun q => !(q.1 == i) && (!(q.1 == i + 1) && !(q.1 + 1 == i && q.2.category == 2))) := by
  show cvl w (i, v) :: _ = _
  congr 1
  rw [List.filter_map]
  congr 1
  apply List.filter_congr
  intro q _
  simp [cvl, cvv_cat]
theorem lkp_mem : ∀ {ls : List (Nat × Value)} {i : Nat} {v : Value}, ls.lookup i = some v → (i, v) ∈ ls
  | [], _, _, h => by cases h
  | (j, u) :: r, i, v, h => by
    unfold List.lookup at h
    split at h
    · next q => cases h; have := eq_of_beq q; subst this; exact List.mem_cons_self
    · exact List.mem_cons_of_mem _ (lkp_mem h)
theorem lkp_at {w : Wp} {la : Array Slot} {n : Nat} {ls : List (Nat × Value)} {i : Nat} {v : Value} (h : lv_has la n (ls.map (cvl w))) (hl : ls.lookup i = some v) : la[i]? = some (.val (cvv w v)) :=
  h.2.2 (i, cvv w v) (List.mem_map.mpr ⟨(i, v), lkp_mem hl, rfl⟩)
theorem lkp_ix {w : Wp} {ls : List (Nat × Value)} {i : Nat} {v : Value} (hl : ls.lookup i = some v) : ∃ k : Nat, (ls.map (cvl w))[k]? = some (i, cvv w v) :=
  List.getElem?_of_mem (List.mem_map.mpr ⟨(i, v), lkp_mem hl, rfl⟩)
end
section
section ROWS
variable {S : Sh} {w : Wp} {x : Cx} {own : String} {M : Md} {cn : Nat × Nat} {pc : Nat} {ls : List (Nat × Value)} {st : List Value} {σ : Mm}
theorem V_iconst {n : Int} {v : Int32} (o : Ok S w x own M) (hd : decode M.2.1 pc = .ok (.iconst n, 1)) (hv : Int32.ofInt n = v) (k : V S w x M cn (pc + 1) ls (.int v :: st) σ) : V S w x M cn pc ls (st) σ := fun H locs la h1 h2 h3 => lv_iconst o.2.1.1 o.2.1.2.1 hd hv (k H locs la h1 h2 h3)
theorem V_bipush {n : Int} {v : Int32} (o : Ok S w x own M) (hd : decode M.2.1 pc = .ok (.bipush n, 2)) (hv : (Int8.ofInt n).toInt32 = v) (k : V S w x M cn (pc + 2) ls (.int v :: st) σ) : V S w x M cn pc ls (st) σ := fun H locs la h1 h2 h3 => lv_bipush o.2.1.1 o.2.1.2.1 hd hv (k H locs la h1 h2 h3)
theorem V_sipush {n : Int} {v : Int32} (o : Ok S w x own M) (hd : decode M.2.1 pc = .ok (.sipush n, 3)) (hv : (Int16.ofInt n).toInt32 = v) (k : V S w x M cn (pc + 3) ls (.int v :: st) σ) : V S w x M cn pc ls (st) σ := fun H locs la h1 h2 h3 => lv_sipush o.2.1.1 o.2.1.2.1 hd hv (k H locs la h1 h2 h3)
theorem V_lconst {n : Fin 2} {v : Int64} (o : Ok S w x own M) (hd : decode M.2.1 pc = .ok (.lconst n, 1)) (hv : Int64.ofNat (n : Nat) = v) (k : V S w x M cn (pc + 1) ls (.long v :: st) σ) : V S w x M cn pc ls (st) σ := fun H locs la h1 h2 h3 => lv_lconst o.2.1.1 o.2.1.2.1 hd hv (k H locs la h1 h2 h3)
theorem V_null  (o : Ok S w x own M) (hd : decode M.2.1 pc = .ok (.aconst_null, 1)) (k : V S w x M cn (pc + 1) ls (.null :: st) σ) : V S w x M cn pc ls (st) σ := fun H locs la h1 h2 h3 => lv_null o.2.1.1 o.2.1.2.1 hd (k H locs la h1 h2 h3)
theorem V_ldc {idx : Nat} {v : Int32} (o : Ok S w x own M) (hd : decode M.2.1 pc = .ok (.ldc idx, 2)) (hc : Cond.constant own idx v ∈ gw) (k : V S w x M cn (pc + 2) ls (.int v :: st) σ) : V S w x M cn pc ls (st) σ := fun H locs la h1 h2 h3 => lv_ldc o.2.1.1 o.2.1.2.1 o.2.1.2.2.2.1 (o.2.1.2.2.2.2 _ hc) hd (k H locs la h1 h2 h3)
theorem V_iload_n {n : Fin 4} {i : Nat} {v : Int32} (o : Ok S w x own M) (hd : decode M.2.1 pc = .ok (.iload_n n, 1)) (hi : (n : Nat) = i) (hl : ls.lookup i = some (.int v)) (k : V S w x M cn (pc + 1) ls (.int v :: st) σ) : V S w x M cn pc ls (st) σ := fun H locs la h1 h2 h3 => lv_iload_n o.2.1.1 o.2.1.2.1 hd hi (lkp_at h3 hl) (k H locs la h1 h2 h3)
theorem V_iload {i : Nat} {v : Int32} (o : Ok S w x own M) (hd : decode M.2.1 pc = .ok (.iload i, 2)) (hl : ls.lookup i = some (.int v)) (k : V S w x M cn (pc + 2) ls (.int v :: st) σ) : V S w x M cn pc ls (st) σ := fun H locs la h1 h2 h3 => lv_iload o.2.1.1 o.2.1.2.1 hd (lkp_at h3 hl) (k H locs la h1 h2 h3)
theorem V_aload_n {n : Fin 4} {i : Nat} {v : Nat} (o : Ok S w x own M) (hd : decode M.2.1 pc = .ok (.aload_n n, 1)) (hi : (n : Nat) = i) (hl : ls.lookup i = some (.ref v)) (k : V S w x M cn (pc + 1) ls (.ref v :: st) σ) : V S w x M cn pc ls (st) σ := fun H locs la h1 h2 h3 => lv_aload_n o.2.1.1 o.2.1.2.1 hd hi (lkp_at h3 hl) (k H locs la h1 h2 h3)
theorem V_aload {i : Nat} {v : Nat} (o : Ok S w x own M) (hd : decode M.2.1 pc = .ok (.aload i, 2)) (hl : ls.lookup i = some (.ref v)) (k : V S w x M cn (pc + 2) ls (.ref v :: st) σ) : V S w x M cn pc ls (st) σ := fun H locs la h1 h2 h3 => lv_aload o.2.1.1 o.2.1.2.1 hd (lkp_at h3 hl) (k H locs la h1 h2 h3)
theorem V_lload_n {n : Fin 4} {i : Nat} {v : Int64} (o : Ok S w x own M) (hd : decode M.2.1 pc = .ok (.lload_n n, 1)) (hi : (n : Nat) = i) (hl : ls.lookup i = some (.long v)) (k : V S w x M cn (pc + 1) ls (.long v :: st) σ) : V S w x M cn pc ls (st) σ := fun H locs la h1 h2 h3 => lv_lload_n o.2.1.1 o.2.1.2.1 hd hi (lkp_at h3 hl) (k H locs la h1 h2 h3)
theorem V_lload {i : Nat} {v : Int64} (o : Ok S w x own M) (hd : decode M.2.1 pc = .ok (.lload i, 2)) (hl : ls.lookup i = some (.long v)) (k : V S w x M cn (pc + 2) ls (.long v :: st) σ) : V S w x M cn pc ls (st) σ := fun H locs la h1 h2 h3 => lv_lload o.2.1.1 o.2.1.2.1 hd (lkp_at h3 hl) (k H locs la h1 h2 h3)
theorem V_istore_n {n : Fin 4} {i : Nat} {v : Int32} {ls' : List (Nat × Value)} (o : Ok S w x own M) (hd : decode M.2.1 pc = .ok (.istore_n n, 1)) (hi : (n : Nat) = i) (hn : i < M.2.2.1) (hs : st1 ls i (.int v) = ls') (k : V S w x M cn (pc + 1) ls' (st) σ) : V S w x M cn pc ls (.int v :: st) σ := fun H locs la h1 h2 h3 => lv_istore_n o.2.1.1 o.2.1.2.1 hd hi h3 hn (st1_map w ls i (.int v)).symm (fun la' h' => k H locs la' h1 h2 (hs ▸ h'))
theorem V_istore {i : Nat} {v : Int32} {ls' : List (Nat × Value)} (o : Ok S w x own M) (hd : decode M.2.1 pc = .ok (.istore i, 2)) (hn : i < M.2.2.1) (hs : st1 ls i (.int v) = ls') (k : V S w x M cn (pc + 2) ls' (st) σ) : V S w x M cn pc ls (.int v :: st) σ := fun H locs la h1 h2 h3 => lv_istore o.2.1.1 o.2.1.2.1 hd h3 hn (st1_map w ls i (.int v)).symm (fun la' h' => k H locs la' h1 h2 (hs ▸ h'))
theorem V_astore_n {n : Fin 4} {i : Nat} {v : Nat} {ls' : List (Nat × Value)} (o : Ok S w x own M) (hd : decode M.2.1 pc = .ok (.astore_n n, 1)) (hi : (n : Nat) = i) (hn : i < M.2.2.1) (hs : st1 ls i (.ref v) = ls') (k : V S w x M cn (pc + 1) ls' (st) σ) : V S w x M cn pc ls (.ref v :: st) σ := fun H locs la h1 h2 h3 => lv_astore_n o.2.1.1 o.2.1.2.1 hd hi h3 hn (st1_map w ls i (.ref v)).symm (fun la' h' => k H locs la' h1 h2 (hs ▸ h'))
theorem V_astore {i : Nat} {v : Nat} {ls' : List (Nat × Value)} (o : Ok S w x own M) (hd : decode M.2.1 pc = .ok (.astore i, 2)) (hn : i < M.2.2.1) (hs : st1 ls i (.ref v) = ls') (k : V S w x M cn (pc + 2) ls' (st) σ) : V S w x M cn pc ls (.ref v :: st) σ := fun H locs la h1 h2 h3 => lv_astore o.2.1.1 o.2.1.2.1 hd h3 hn (st1_map w ls i (.ref v)).symm (fun la' h' => k H locs la' h1 h2 (hs ▸ h'))
theorem V_lstore {i : Nat} {v : Int64} {ls' : List (Nat × Value)} (o : Ok S w x own M) (hd : decode M.2.1 pc = .ok (.lstore i, 2)) (hn : i + 1 < M.2.2.1) (hs : st2 ls i (.long v) = ls') (k : V S w x M cn (pc + 2) ls' (st) σ) : V S w x M cn pc ls (.long v :: st) σ := fun H locs la h1 h2 h3 => lv_lstore o.2.1.1 o.2.1.2.1 hd h3 hn (st2_map w ls i (.long v)).symm (fun la' h' => k H locs la' h1 h2 (hs ▸ h'))
theorem V_iinc {i : Nat} {n : Int} {u : Int32} {ls' : List (Nat × Value)} (o : Ok S w x own M) (hd : decode M.2.1 pc = .ok (.iinc i n, 3)) (hl : ls.lookup i = some (.int u)) (hn : i < M.2.2.1) (hs : st1 ls i (.int (u + Int32.ofInt n)) = ls') (k : V S w x M cn (pc + 3) ls' (st) σ) : V S w x M cn pc ls st σ := fun H locs la h1 h2 h3 => by
  obtain ⟨q, hq⟩ := lkp_ix (w := w) hl
  exact lv_iinc o.2.1.1 o.2.1.2.1 hd h3 hq rfl hn (st1_map w ls i (.int (u + Int32.ofInt n))).symm (fun la' h' => k H locs la' h1 h2 (hs ▸ h'))
theorem V_iadd {a b : Int32} (o : Ok S w x own M) (hd : decode M.2.1 pc = .ok (.iadd, 1)) (k : V S w x M cn (pc + 1) ls (.int (a + b) :: st) σ) : V S w x M cn pc ls (.int b :: .int a :: st) σ := fun H locs la h1 h2 h3 => lv_iadd o.2.1.1 o.2.1.2.1 hd (k H locs la h1 h2 h3)
theorem V_isub {a b : Int32} (o : Ok S w x own M) (hd : decode M.2.1 pc = .ok (.isub, 1)) (k : V S w x M cn (pc + 1) ls (.int (a - b) :: st) σ) : V S w x M cn pc ls (.int b :: .int a :: st) σ := fun H locs la h1 h2 h3 => lv_isub o.2.1.1 o.2.1.2.1 hd (k H locs la h1 h2 h3)
theorem V_imul {a b : Int32} (o : Ok S w x own M) (hd : decode M.2.1 pc = .ok (.imul, 1)) (k : V S w x M cn (pc + 1) ls (.int (a * b) :: st) σ) : V S w x M cn pc ls (.int b :: .int a :: st) σ := fun H locs la h1 h2 h3 => lv_imul o.2.1.1 o.2.1.2.1 hd (k H locs la h1 h2 h3)
theorem V_iand {a b : Int32} (o : Ok S w x own M) (hd : decode M.2.1 pc = .ok (.iand, 1)) (k : V S w x M cn (pc + 1) ls (.int (a &&& b) :: st) σ) : V S w x M cn pc ls (.int b :: .int a :: st) σ := fun H locs la h1 h2 h3 => lv_iand o.2.1.1 o.2.1.2.1 hd (k H locs la h1 h2 h3)
theorem V_ior {a b : Int32} (o : Ok S w x own M) (hd : decode M.2.1 pc = .ok (.ior, 1)) (k : V S w x M cn (pc + 1) ls (.int (a ||| b) :: st) σ) : V S w x M cn pc ls (.int b :: .int a :: st) σ := fun H locs la h1 h2 h3 => lv_ior o.2.1.1 o.2.1.2.1 hd (k H locs la h1 h2 h3)
theorem V_ixor {a b : Int32} (o : Ok S w x own M) (hd : decode M.2.1 pc = .ok (.ixor, 1)) (k : V S w x M cn (pc + 1) ls (.int (a ^^^ b) :: st) σ) : V S w x M cn pc ls (.int b :: .int a :: st) σ := fun H locs la h1 h2 h3 => lv_ixor o.2.1.1 o.2.1.2.1 hd (k H locs la h1 h2 h3)
theorem V_ishl {a b : Int32} (o : Ok S w x own M) (hd : decode M.2.1 pc = .ok (.ishl, 1)) (k : V S w x M cn (pc + 1) ls (.int (a <<< (b &&& 31)) :: st) σ) : V S w x M cn pc ls (.int b :: .int a :: st) σ := fun H locs la h1 h2 h3 => lv_ishl o.2.1.1 o.2.1.2.1 hd (k H locs la h1 h2 h3)
theorem V_ishr {a b : Int32} (o : Ok S w x own M) (hd : decode M.2.1 pc = .ok (.ishr, 1)) (k : V S w x M cn (pc + 1) ls (.int (a >>> (b &&& 31)) :: st) σ) : V S w x M cn pc ls (.int b :: .int a :: st) σ := fun H locs la h1 h2 h3 => lv_ishr o.2.1.1 o.2.1.2.1 hd (k H locs la h1 h2 h3)
theorem V_iushr {a b : Int32} (o : Ok S w x own M) (hd : decode M.2.1 pc = .ok (.iushr, 1)) (k : V S w x M cn (pc + 1) ls (.int (a.toUInt32 >>> (b.toUInt32 &&& Int32.toUInt32 31)).toInt32 :: st) σ) : V S w x M cn pc ls (.int b :: .int a :: st) σ := fun H locs la h1 h2 h3 => lv_iushr o.2.1.1 o.2.1.2.1 hd rfl (k H locs la h1 h2 h3)
theorem V_ineg {a : Int32} (o : Ok S w x own M) (hd : decode M.2.1 pc = .ok (.ineg, 1)) (k : V S w x M cn (pc + 1) ls (.int (-a) :: st) σ) : V S w x M cn pc ls (.int a :: st) σ := fun H locs la h1 h2 h3 => lv_ineg o.2.1.1 o.2.1.2.1 hd (k H locs la h1 h2 h3)
theorem V_idiv {a b : Int32} (o : Ok S w x own M) (hd : decode M.2.1 pc = .ok (.idiv, 1)) (hb : ¬ b = 0) (k : V S w x M cn (pc + 1) ls (.int (a / b) :: st) σ) : V S w x M cn pc ls (.int b :: .int a :: st) σ := fun H locs la h1 h2 h3 => lv_idiv o.2.1.1 o.2.1.2.1 hd hb (k H locs la h1 h2 h3)
theorem V_irem {a b : Int32} (o : Ok S w x own M) (hd : decode M.2.1 pc = .ok (.irem, 1)) (hb : ¬ b = 0) (k : V S w x M cn (pc + 1) ls (.int (a - a / b * b) :: st) σ) : V S w x M cn pc ls (.int b :: .int a :: st) σ := fun H locs la h1 h2 h3 => lv_irem o.2.1.1 o.2.1.2.1 hd hb (k H locs la h1 h2 h3)
theorem V_ladd {a b : Int64} (o : Ok S w x own M) (hd : decode M.2.1 pc = .ok (.ladd, 1)) (k : V S w x M cn (pc + 1) ls (.long (a + b) :: st) σ) : V S w x M cn pc ls (.long b :: .long a :: st) σ := fun H locs la h1 h2 h3 => lv_ladd o.2.1.1 o.2.1.2.1 hd (k H locs la h1 h2 h3)
theorem V_i2l {a : Int32} (o : Ok S w x own M) (hd : decode M.2.1 pc = .ok (.i2l, 1)) (k : V S w x M cn (pc + 1) ls (.long a.toInt64 :: st) σ) : V S w x M cn pc ls (.int a :: st) σ := fun H locs la h1 h2 h3 => lv_i2l o.2.1.1 o.2.1.2.1 hd rfl (k H locs la h1 h2 h3)
theorem V_lcmp {a b : Int64} (o : Ok S w x own M) (hd : decode M.2.1 pc = .ok (.lcmp, 1)) (k : V S w x M cn (pc + 1) ls (.int (lg_cmp a b) :: st) σ) : V S w x M cn pc ls (.long b :: .long a :: st) σ := fun H locs la h1 h2 h3 => W.lcmp o.2.1.1 o.2.1.2.1 hd (k H locs la h1 h2 h3)
theorem V_dup {v : Value} (o : Ok S w x own M) (hd : decode M.2.1 pc = .ok (.dup, 1)) (hv : v.category = 1) (k : V S w x M cn (pc + 1) ls (v :: v :: st) σ) : V S w x M cn pc ls (v :: st) σ := fun H locs la h1 h2 h3 => lv_dup o.2.1.1 o.2.1.2.1 hd ((cvv_cat w v).trans hv) (k H locs la h1 h2 h3)
theorem V_pop {v : Value} (o : Ok S w x own M) (hd : decode M.2.1 pc = .ok (.pop, 1)) (hv : v.category = 1) (k : V S w x M cn (pc + 1) ls (st) σ) : V S w x M cn pc ls (v :: st) σ := fun H locs la h1 h2 h3 => lv_pop o.2.1.1 o.2.1.2.1 hd ((cvv_cat w v).trans hv) (k H locs la h1 h2 h3)
theorem V_goto {off : Int} {tgt : Nat} (o : Ok S w x own M) (hd : decode M.2.1 pc = .ok (.goto off, 3)) (ht : (pc : Int) + off = (tgt : Int)) (k : V S w x M cn (tgt) ls (st) σ) : V S w x M cn pc ls (st) σ := fun H locs la h1 h2 h3 => lv_goto o.2.1.1 o.2.1.2.1 hd ht (k H locs la h1 h2 h3)
theorem V_if_lt {a : Int32} {off : Int} {tgt : Nat} (o : Ok S w x own M) (hd : decode M.2.1 pc = .ok (.ifCond .lt off, 3)) (ht : (pc : Int) + off = (tgt : Int)) (kt : (a < 0) → V S w x M cn (tgt) ls (st) σ) (kf : ¬ (a < 0) → V S w x M cn (pc + 3) ls (st) σ) : V S w x M cn pc ls (.int a :: st) σ := fun H locs la h1 h2 h3 => lv_if_lt o.2.1.1 o.2.1.2.1 hd ht (fun c => kt c H locs la h1 h2 h3) (fun c => kf c H locs la h1 h2 h3)
theorem V_icmp_lt {a b : Int32} {off : Int} {tgt : Nat} (o : Ok S w x own M) (hd : decode M.2.1 pc = .ok (.if_icmp .lt off, 3)) (ht : (pc : Int) + off = (tgt : Int)) (kt : (a < b) → V S w x M cn (tgt) ls (st) σ) (kf : ¬ (a < b) → V S w x M cn (pc + 3) ls (st) σ) : V S w x M cn pc ls (.int b :: .int a :: st) σ := fun H locs la h1 h2 h3 => lv_icmp_lt o.2.1.1 o.2.1.2.1 hd ht (fun c => kt c H locs la h1 h2 h3) (fun c => kf c H locs la h1 h2 h3)
theorem V_if_le {a : Int32} {off : Int} {tgt : Nat} (o : Ok S w x own M) (hd : decode M.2.1 pc = .ok (.ifCond .le off, 3)) (ht : (pc : Int) + off = (tgt : Int)) (kt : (a ≤ 0) → V S w x M cn (tgt) ls (st) σ) (kf : ¬ (a ≤ 0) → V S w x M cn (pc + 3) ls (st) σ) : V S w x M cn pc ls (.int a :: st) σ := fun H locs la h1 h2 h3 => lv_if_le o.2.1.1 o.2.1.2.1 hd ht (fun c => kt c H locs la h1 h2 h3) (fun c => kf c H locs la h1 h2 h3)
theorem V_icmp_le {a b : Int32} {off : Int} {tgt : Nat} (o : Ok S w x own M) (hd : decode M.2.1 pc = .ok (.if_icmp .le off, 3)) (ht : (pc : Int) + off = (tgt : Int)) (kt : (a ≤ b) → V S w x M cn (tgt) ls (st) σ) (kf : ¬ (a ≤ b) → V S w x M cn (pc + 3) ls (st) σ) : V S w x M cn pc ls (.int b :: .int a :: st) σ := fun H locs la h1 h2 h3 => lv_icmp_le o.2.1.1 o.2.1.2.1 hd ht (fun c => kt c H locs la h1 h2 h3) (fun c => kf c H locs la h1 h2 h3)
theorem V_if_gt {a : Int32} {off : Int} {tgt : Nat} (o : Ok S w x own M) (hd : decode M.2.1 pc = .ok (.ifCond .gt off, 3)) (ht : (pc : Int) + off = (tgt : Int)) (kt : (0 < a) → V S w x M cn (tgt) ls (st) σ) (kf : ¬ (0 < a) → V S w x M cn (pc + 3) ls (st) σ) : V S w x M cn pc ls (.int a :: st) σ := fun H locs la h1 h2 h3 => lv_if_gt o.2.1.1 o.2.1.2.1 hd ht (fun c => kt c H locs la h1 h2 h3) (fun c => kf c H locs la h1 h2 h3)
theorem V_icmp_gt {a b : Int32} {off : Int} {tgt : Nat} (o : Ok S w x own M) (hd : decode M.2.1 pc = .ok (.if_icmp .gt off, 3)) (ht : (pc : Int) + off = (tgt : Int)) (kt : (b < a) → V S w x M cn (tgt) ls (st) σ) (kf : ¬ (b < a) → V S w x M cn (pc + 3) ls (st) σ) : V S w x M cn pc ls (.int b :: .int a :: st) σ := fun H locs la h1 h2 h3 => lv_icmp_gt o.2.1.1 o.2.1.2.1 hd ht (fun c => kt c H locs la h1 h2 h3) (fun c => kf c H locs la h1 h2 h3)
theorem V_if_ge {a : Int32} {off : Int} {tgt : Nat} (o : Ok S w x own M) (hd : decode M.2.1 pc = .ok (.ifCond .ge off, 3)) (ht : (pc : Int) + off = (tgt : Int)) (kt : (0 ≤ a) → V S w x M cn (tgt) ls (st) σ) (kf : ¬ (0 ≤ a) → V S w x M cn (pc + 3) ls (st) σ) : V S w x M cn pc ls (.int a :: st) σ := fun H locs la h1 h2 h3 => lv_if_ge o.2.1.1 o.2.1.2.1 hd ht (fun c => kt c H locs la h1 h2 h3) (fun c => kf c H locs la h1 h2 h3)
theorem V_icmp_ge {a b : Int32} {off : Int} {tgt : Nat} (o : Ok S w x own M) (hd : decode M.2.1 pc = .ok (.if_icmp .ge off, 3)) (ht : (pc : Int) + off = (tgt : Int)) (kt : (b ≤ a) → V S w x M cn (tgt) ls (st) σ) (kf : ¬ (b ≤ a) → V S w x M cn (pc + 3) ls (st) σ) : V S w x M cn pc ls (.int b :: .int a :: st) σ := fun H locs la h1 h2 h3 => lv_icmp_ge o.2.1.1 o.2.1.2.1 hd ht (fun c => kt c H locs la h1 h2 h3) (fun c => kf c H locs la h1 h2 h3)
theorem V_if_eq {a : Int32} {off : Int} {tgt : Nat} (o : Ok S w x own M) (hd : decode M.2.1 pc = .ok (.ifCond .eq off, 3)) (ht : (pc : Int) + off = (tgt : Int)) (kt : (a = 0) → V S w x M cn (tgt) ls (st) σ) (kf : ¬ (a = 0) → V S w x M cn (pc + 3) ls (st) σ) : V S w x M cn pc ls (.int a :: st) σ := fun H locs la h1 h2 h3 => lv_if_eq o.2.1.1 o.2.1.2.1 hd ht (fun c => kt c H locs la h1 h2 h3) (fun c => kf c H locs la h1 h2 h3)
theorem V_icmp_eq {a b : Int32} {off : Int} {tgt : Nat} (o : Ok S w x own M) (hd : decode M.2.1 pc = .ok (.if_icmp .eq off, 3)) (ht : (pc : Int) + off = (tgt : Int)) (kt : (a = b) → V S w x M cn (tgt) ls (st) σ) (kf : ¬ (a = b) → V S w x M cn (pc + 3) ls (st) σ) : V S w x M cn pc ls (.int b :: .int a :: st) σ := fun H locs la h1 h2 h3 => lv_icmp_eq o.2.1.1 o.2.1.2.1 hd ht (fun c => kt c H locs la h1 h2 h3) (fun c => kf c H locs la h1 h2 h3)
theorem V_if_ne {a : Int32} {off : Int} {tgt : Nat} (o : Ok S w x own M) (hd : decode M.2.1 pc = .ok (.ifCond .ne off, 3)) (ht : (pc : Int) + off = (tgt : Int)) (kt : (¬ a = 0) → V S w x M cn (tgt) ls (st) σ) (kf : a = 0 → V S w x M cn (pc + 3) ls (st) σ) : V S w x M cn pc ls (.int a :: st) σ := fun H locs la h1 h2 h3 => lv_if_ne o.2.1.1 o.2.1.2.1 hd ht (fun c => kt c H locs la h1 h2 h3) (fun c => kf c H locs la h1 h2 h3)
theorem V_icmp_ne {a b : Int32} {off : Int} {tgt : Nat} (o : Ok S w x own M) (hd : decode M.2.1 pc = .ok (.if_icmp .ne off, 3)) (ht : (pc : Int) + off = (tgt : Int)) (kt : (¬ a = b) → V S w x M cn (tgt) ls (st) σ) (kf : a = b → V S w x M cn (pc + 3) ls (st) σ) : V S w x M cn pc ls (.int b :: .int a :: st) σ := fun H locs la h1 h2 h3 => lv_icmp_ne o.2.1.1 o.2.1.2.1 hd ht (fun c => kt c H locs la h1 h2 h3) (fun c => kf c H locs la h1 h2 h3)
theorem V_ifnull_r {a : Nat} {off : Int} (o : Ok S w x own M) (hd : decode M.2.1 pc = .ok (.ifnull off, 3)) (k : V S w x M cn (pc + 3) ls (st) σ) : V S w x M cn pc ls (.ref a :: st) σ := fun H locs la h1 h2 h3 => lv_ifnull o.2.1.1 o.2.1.2.1 hd (k H locs la h1 h2 h3)
theorem V_ifnull_n {off : Int} {tgt : Nat} (o : Ok S w x own M) (hd : decode M.2.1 pc = .ok (.ifnull off, 3)) (ht : (pc : Int) + off = (tgt : Int)) (k : V S w x M cn (tgt) ls (st) σ) : V S w x M cn pc ls (.null :: st) σ := fun H locs la h1 h2 h3 => lv_ifnullN o.2.1.1 o.2.1.2.1 hd ht (k H locs la h1 h2 h3)
theorem V_ifnonnull_r {a : Nat} {off : Int} {tgt : Nat} (o : Ok S w x own M) (hd : decode M.2.1 pc = .ok (.ifnonnull off, 3)) (ht : (pc : Int) + off = (tgt : Int)) (k : V S w x M cn (tgt) ls (st) σ) : V S w x M cn pc ls (.ref a :: st) σ := fun H locs la h1 h2 h3 => lv_ifnonnull o.2.1.1 o.2.1.2.1 hd ht (k H locs la h1 h2 h3)
theorem V_ifnonnull_n {off : Int} (o : Ok S w x own M) (hd : decode M.2.1 pc = .ok (.ifnonnull off, 3)) (k : V S w x M cn (pc + 3) ls (st) σ) : V S w x M cn pc ls (.null :: st) σ := fun H locs la h1 h2 h3 => lv_ifnonnullN o.2.1.1 o.2.1.2.1 hd (k H locs la h1 h2 h3)
theorem V_tableOut {df lo hi : Int} {offs : Array Int} {len : Nat} {a : Int32} {tgt : Nat} (o : Ok S w x own M) (hd : decode M.2.1 pc = .ok (.tableswitch df lo hi offs, len)) (h : a.toInt < lo ∨ hi < a.toInt) (ht : (pc : Int) + df = (tgt : Int)) (k : V S w x M cn (tgt) ls (st) σ) : V S w x M cn pc ls (.int a :: st) σ := fun H locs la h1 h2 h3 => lv_tableOut o.2.1.1 o.2.1.2.1 hd h ht (k H locs la h1 h2 h3)
theorem V_tableIn {df lo hi : Int} {offs : Array Int} {len : Nat} {a : Int32} {off : Int} {tgt : Nat} (o : Ok S w x own M) (hd : decode M.2.1 pc = .ok (.tableswitch df lo hi offs, len)) (q1 : ¬ a.toInt < lo) (q2 : ¬ hi < a.toInt) (ho : offs[(a.toInt - lo).toNat]? = some off) (ht : (pc : Int) + off = (tgt : Int)) (k : V S w x M cn (tgt) ls (st) σ) : V S w x M cn pc ls (.int a :: st) σ := fun H locs la h1 h2 h3 => lv_tableIn o.2.1.1 o.2.1.2.1 hd q1 q2 ho ht (k H locs la h1 h2 h3)
theorem V_lookup {df : Int} {ps : Array (Int × Int)} {len : Nat} {a : Int32} {off : Int} {tgt : Nat} (o : Ok S w x own M) (hd : decode M.2.1 pc = .ok (.lookupswitch df ps, len)) (hp : (ps.toList.zip (ps.toList.drop 1)).all (fun (a, next) => a.1 < next.1) = true) (ho : Op.lookupswitch.offset ps.toList df a.toInt = off) (ht : (pc : Int) + off = (tgt : Int)) (k : V S w x M cn (tgt) ls (st) σ) : V S w x M cn pc ls (.int a :: st) σ := fun H locs la h1 h2 h3 => lv_lookup o.2.1.1 o.2.1.2.1 hd hp ho ht (k H locs la h1 h2 h3)
end ROWS
end
section
section MEM
theorem vwCl_at {k : Nat} (h : k < 10) : vwCl[k]? = some (RXn k, TXn k, nf k) := by
  match k, h with
  | 0, _ => rfl | 1, _ => rfl | 2, _ => rfl | 3, _ => rfl | 4, _ => rfl | 5, _ => rfl | 6, _ => rfl | 7, _ => rfl | 8, _ => rfl | 9, _ => rfl
theorem tyXn_ok {k : Nat} (h : k < 10) : ∀ j, j < nf k → parseFieldDescriptor (TXn k j).2.2.1 = some (tyXn k j) := by
  match k, h with
  | 0, _ => exact tyX0_ok | 1, _ => exact tyX1_ok | 2, _ => exact tyX2_ok | 3, _ => exact tyX3_ok | 4, _ => exact tyX4_ok | 5, _ => exact tyX5_ok | 6, _ => exact tyX6_ok | 7, _ => exact tyX7_ok | 8, _ => exact tyX8_ok | 9, _ => exact tyX9_ok
theorem nmXn {k : Nat} (h : k < 10) : ∀ a, a < nf k → ∀ b, b < nf k → a ≠ b → (TXn k a).2.1 ≠ (TXn k b).2.1 := by
  match k, h with
  | 0, _ => exact nmX0 | 1, _ => exact nmX1 | 2, _ => exact nmX2 | 3, _ => exact nmX3 | 4, _ => exact nmX4 | 5, _ => exact nmX5 | 6, _ => exact nmX6 | 7, _ => exact nmX7 | 8, _ => exact nmX8 | 9, _ => exact nmX9
theorem wsIn (k : Nat) (C : String) (T : u_T) (N : Nat) (h : ∀ w ∈ u_ws C T N, w ∈ lw_tbl) (hg : (u_ws C T N).all goodWord = true) : ∀ w ∈ u_ws C T N, w ∈ gw := fun w hw => gw_of (h w hw) (List.all_eq_true.mp hg w hw)
theorem wsXn_in {k : Nat} (h : k < 10) : ∀ w ∈ u_ws (RXn k) (TXn k) (nf k), w ∈ gw := by
  match k, h with
  | 0, _ => exact wsIn 0 _ _ _ (by decide +kernel) (by decide +kernel)
  | 1, _ => exact wsIn 1 _ _ _ (by decide +kernel) (by decide +kernel)
  | 2, _ => exact wsIn 2 _ _ _ (by decide +kernel) (by decide +kernel)
  | 3, _ => exact wsIn 3 _ _ _ (by decide +kernel) (by decide +kernel)
  | 4, _ => exact wsIn 4 _ _ _ (by decide +kernel) (by decide +kernel)
  | 5, _ => exact wsIn 5 _ _ _ (by decide +kernel) (by decide +kernel)
  | 6, _ => exact wsIn 6 _ _ _ (by decide +kernel) (by decide +kernel)
  | 7, _ => exact wsIn 7 _ _ _ (by decide +kernel) (by decide +kernel)
  | 8, _ => exact wsIn 8 _ _ _ (by decide +kernel) (by decide +kernel)
  | 9, _ => exact wsIn 9 _ _ _ (by decide +kernel) (by decide +kernel)
/-- a field's link: own class, index, the kind, the slot -/
def FL (own : String) (idx ci j : Nat) : Prop := ci < 10 ∧ j < nf ci ∧ Cond.fieldLink own idx (TXn ci j).1 (TXn ci j).2.1 (TXn ci j).2.2.1 ∈ gw
variable {S : Sh} {w : Wp} {x : Cx} {own : String} {M : Md} {cn : Nat × Nat} {pc : Nat} {ls : List (Nat × Value)} {st : List Value} {σ : Mm}
theorem cll_obj {a ci : Nat} (hk : S.2.1 a = ci) (hc : ci < 10) : cll S w σ a = .inr (ci, (List.range (nf ci)).map (fvv S w σ a)) := by
  subst hk
  simp [cll, hc]
theorem fvv_at {a n j : Nat} (hj : j < n) : ((List.range n).map (fvv S w σ a))[j]? = some (fvv S w σ a j) := by
  rw [List.getElem?_map, List.getElem?_range hj]; rfl
theorem V_get {a ci j idx : Nat} {v : Value} (o : Ok S w x own M) (hd : decode M.2.1 pc = .ok (.getfield idx, 3)) (hk : S.2.1 a = ci) (hl : FL own idx ci j) (hv : fvv S w σ a j = cvv w v)
    (k : V S w x M cn (pc + 3) ls (v :: st) σ) : V S w x M cn pc ls (.ref a :: st) σ := by
  intro H locs la h1 h2 h3
  obtain ⟨hf, ⟨hx, hb, -, hown, hts⟩, hK, -⟩ := id o
  have ha : a ∈ S.1 := hf.2.1 a (by rw [hk]; exact Nat.lt_of_lt_of_le hl.1 (by decide))
  obtain ⟨q, hq⟩ := Wws_get hf σ ha
  rw [cll_obj hk hl.1] at hq
  exact va_get (C := RXn ci) (T := TXn ci) (N := nf ci) hx hb hts (wsXn_in hl.1) hown hK h1 q hq (vwCl_at hl.1) j hl.2.1 (hts _ hl.2.2) (fun _ h => h) ((fvv_at hl.2.1).trans (congrArg some hv)) hd (k H locs la h1 h2 h3)
theorem V_getI {a ci j idx : Nat} (o : Ok S w x own M) (hd : decode M.2.1 pc = .ok (.getfield idx, 3)) (hk : S.2.1 a = ci) (hl : FL own idx ci j) (hr : S.2.2.2 a j = none)
    (k : V S w x M cn (pc + 3) ls (.int (σ.1 a j) :: st) σ) : V S w x M cn pc ls (.ref a :: st) σ := V_get o hd hk hl (by simp [fvv, hr, cvv]) k
theorem V_getR {a ci j idx t : Nat} (o : Ok S w x own M) (hd : decode M.2.1 pc = .ok (.getfield idx, 3)) (hk : S.2.1 a = ci) (hl : FL own idx ci j) (hr : S.2.2.2 a j = some t)
    (k : V S w x M cn (pc + 3) ls (.ref t :: st) σ) : V S w x M cn pc ls (.ref a :: st) σ := V_get o hd hk hl (by simp [fvv, hr, cvv]) k
theorem fvv_set {a n j : Nat} {v : Int32} (hr : S.2.2.2 a j = none) : ((List.range n).map (fvv S w σ a)).set j (.int v) = (List.range n).map (fvv S w (wI σ a j v) a) := by
  apply List.ext_getElem?
  intro i
  by_cases hi : i < n
  · by_cases hij : j = i
    · subst hij
      rw [List.getElem?_set_self (by simpa using hi), fvv_at hi]
      simp [fvv, hr, wI, up2]
    · rw [List.getElem?_set_ne hij, fvv_at hi, fvv_at hi]
      have : ¬ i = j := fun q => hij q.symm
      simp [fvv, wI, up2, this]
  · rw [List.getElem?_eq_none (by simpa using hi), List.getElem?_eq_none (by simpa using hi)]
theorem cll_wI {a j : Nat} {v : Int32} (b : Nat) (h : b ≠ a) : cll S w (wI σ a j v) b = cll S w σ b := by
  have e1 : fvv S w (wI σ a j v) b = fvv S w σ b := by funext i; simp [fvv, wI, up2, h]
  have e2 : (wI σ a j v).1 b = σ.1 b := by funext i; simp [wI, up2, h]
  have e3 : ∀ i, trr S (wI σ a j v) b i = trr S σ b i := fun i => rfl
  simp only [cll, e1, e2, e3]; rfl
theorem V_put {a ci j idx : Nat} {v : Int32} (o : Ok S w x own M) (hd : decode M.2.1 pc = .ok (.putfield idx, 3)) (hk : S.2.1 a = ci) (hl : FL own idx ci j) (hr : S.2.2.2 a j = none) (hfin : (TXn ci j).2.2.2 = false) (hn : narrow (tyXn ci j) (.int v) = .int v) (hfit : fits (tyXn ci j) (.int v) = true)
    (k : V S w x M cn (pc + 3) ls st (wI σ a j v)) : V S w x M cn pc ls (.int v :: .ref a :: st) σ := by
  intro H locs la h1 h2 h3
  obtain ⟨hf, ⟨hx, hb, -, hown, hts⟩, hK, -⟩ := id o
  have ha : a ∈ S.1 := hf.2.1 a (by rw [hk]; exact Nat.lt_of_lt_of_le hl.1 (by decide))
  obtain ⟨q, hq0⟩ := Wws_get hf σ ha
  have hq := hq0
  rw [cll_obj hk hl.1] at hq
  refine va_put (C := RXn ci) (T := TXn ci) (N := nf ci) hx hb hts (wsXn_in hl.1) (tyXn ci) (tyXn_ok hl.1) (nmXn hl.1) hown hK h1 (Wws_D hf σ) h2 q hq (vwCl_at hl.1) j hl.2.1 (hts _ hl.2.2) (fun _ h => h) hfin (tyXn_ok hl.1 j hl.2.1) hn hfit (by simpa using hl.2.1) hd (fun H1 locs1 g1 _ g3 => ?_)
  refine k H1 locs1 la ?_ g3 h3
  show va_P w.D vwCl (Wws S w (wI σ a j v)) H1
  rw [← Wws_set hf ha hq0 (fun b hb => cll_wI b hb), cll_obj hk hl.1, ← fvv_set hr]
  exact g1
theorem V_putI {a ci j idx : Nat} {v : Int32} (o : Ok S w x own M) (hd : decode M.2.1 pc = .ok (.putfield idx, 3)) (hk : S.2.1 a = ci) (hl : FL own idx ci j) (hr : S.2.2.2 a j = none) (hfin : (TXn ci j).2.2.2 = false) (ht : tyXn ci j = .int)
    (k : V S w x M cn (pc + 3) ls st (wI σ a j v)) : V S w x M cn pc ls (.int v :: .ref a :: st) σ := V_put o hd hk hl hr hfin (by rw [ht]; rfl) (by rw [ht]; rfl) k
theorem V_putZ {a ci j idx : Nat} {v : Int32} (o : Ok S w x own M) (hd : decode M.2.1 pc = .ok (.putfield idx, 3)) (hk : S.2.1 a = ci) (hl : FL own idx ci j) (hr : S.2.2.2 a j = none) (hfin : (TXn ci j).2.2.2 = false) (ht : tyXn ci j = .boolean) (hv : v = 0 ∨ v = 1)
    (k : V S w x M cn (pc + 3) ls st (wI σ a j v)) : V S w x M cn pc ls (.int v :: .ref a :: st) σ := V_put o hd hk hl hr hfin (by rw [ht]; rcases hv with rfl | rfl <;> rfl) (by rw [ht]; rcases hv with rfl | rfl <;> rfl) k
/-- rows of ints -/
def ix (i : Int32) : Nat := i.toNatClampNeg
theorem cll_ints {a : Nat} (hk : S.2.1 a = 10) : cll S w σ a = .inl (w.2.2.2.2.2.1, S.2.2.1 a, .inl (σ.1 a)) := by simp [cll, hk]
theorem cll_longs {a : Nat} (hk : S.2.1 a = 11) : cll S w σ a = .inl (w.2.2.2.2.2.2.1, S.2.2.1 a, .inr (.inl (σ.2.1 a))) := by simp [cll, hk]
theorem cll_refs {a : Nat} (hk : S.2.1 a = 12 ∨ S.2.1 a = 13) : cll S w σ a = .inl (w.2.2.2.2.2.2.2, S.2.2.1 a, .inr (.inr (.inr (.inr (fun j => (trr S σ a j).map w.ad))))) := by rcases hk with hk | hk <;> simp [cll, hk]
theorem V_iald {a : Nat} {i : Int32} (o : Ok S w x own M) (hd : decode M.2.1 pc = .ok (.iaload, 1)) (hk : S.2.1 a = 10) (hi : vp_in i (S.2.2.1 a))
    (k : V S w x M cn (pc + 1) ls (.int (σ.1 a (ix i)) :: st) σ) : V S w x M cn pc ls (.int i :: .ref a :: st) σ := by
  intro H locs la h1 h2 h3
  obtain ⟨hf, ⟨hx, hb, -, hown, hts⟩, hK, -⟩ := id o
  have ha : a ∈ S.1 := hf.2.1 a (by rw [hk]; decide)
  obtain ⟨q, hq⟩ := Wws_get hf σ ha
  rw [cll_ints hk] at hq
  exact va_iald hx hb hK h1 q 0 hq rfl hi hd (k H locs la h1 h2 h3)
theorem V_lald {a : Nat} {i : Int32} (o : Ok S w x own M) (hd : decode M.2.1 pc = .ok (.laload, 1)) (hk : S.2.1 a = 11) (hi : vp_in i (S.2.2.1 a))
    (k : V S w x M cn (pc + 1) ls (.long (σ.2.1 a (ix i)) :: st) σ) : V S w x M cn pc ls (.int i :: .ref a :: st) σ := by
  intro H locs la h1 h2 h3
  obtain ⟨hf, ⟨hx, hb, -, hown, hts⟩, hK, -⟩ := id o
  have ha : a ∈ S.1 := hf.2.1 a (by rw [hk]; decide)
  obtain ⟨q, hq⟩ := Wws_get hf σ ha
  rw [cll_longs hk] at hq
  exact va_lald hx hb hK h1 q 1 hq rfl hi hd (k H locs la h1 h2 h3)
def rfv (r : Option Nat) : Value := match r with
  | some t => .ref t
  | none => .null
theorem V_aald {a : Nat} {i : Int32} (o : Ok S w x own M) (hd : decode M.2.1 pc = .ok (.aaload, 1)) (hk : S.2.1 a = 12 ∨ S.2.1 a = 13) (hi : vp_in i (S.2.2.1 a))
    (k : V S w x M cn (pc + 1) ls (rfv (trr S σ a (ix i)) :: st) σ) : V S w x M cn pc ls (.int i :: .ref a :: st) σ := by
  intro H locs la h1 h2 h3
  obtain ⟨hf, ⟨hx, hb, -, hown, hts⟩, hK, -⟩ := id o
  have ha : a ∈ S.1 := hf.2.1 a (by rcases hk with hk | hk <;> (rw [hk]; decide))
  obtain ⟨q, hq⟩ := Wws_get hf σ ha
  rw [cll_refs hk] at hq
  refine va_aldq hx hb hK h1 q 2 hq rfl hi hd ?_
  have e : va_rf ((trr S σ a (ix i)).map w.ad) = cvv w (rfv (trr S σ a (ix i))) := by cases trr S σ a (ix i) <;> rfl
  show W _ _ _ _ _ _ _ _ _ _ _ _ _ _ _ (F0 x.m (pc + 1) la (va_rf ((trr S σ a (ix i)).map w.ad) :: st.map (cvv w)))
  rw [e]
  exact k H locs la h1 h2 h3
theorem V_aaldS {a t : Nat} {i : Int32} (o : Ok S w x own M) (hd : decode M.2.1 pc = .ok (.aaload, 1)) (hk : S.2.1 a = 12 ∨ S.2.1 a = 13) (hi : vp_in i (S.2.2.1 a)) (ht : trr S σ a (ix i) = some t)
    (k : V S w x M cn (pc + 1) ls (.ref t :: st) σ) : V S w x M cn pc ls (.int i :: .ref a :: st) σ := V_aald o hd hk hi (by rw [ht]; exact k)
theorem V_aaldN {a : Nat} {i : Int32} (o : Ok S w x own M) (hd : decode M.2.1 pc = .ok (.aaload, 1)) (hk : S.2.1 a = 12 ∨ S.2.1 a = 13) (hi : vp_in i (S.2.2.1 a)) (ht : trr S σ a (ix i) = none)
    (k : V S w x M cn (pc + 1) ls (.null :: st) σ) : V S w x M cn pc ls (.int i :: .ref a :: st) σ := V_aald o hd hk hi (by rw [ht]; exact k)
theorem V_alen {a : Nat} {v : Int32} (o : Ok S w x own M) (hd : decode M.2.1 pc = .ok (.arraylength, 1)) (hk : S.2.1 a = 10 ∨ S.2.1 a = 11 ∨ S.2.1 a = 12 ∨ S.2.1 a = 13) (hv : Int32.ofNat (S.2.2.1 a) = v)
    (k : V S w x M cn (pc + 1) ls (.int v :: st) σ) : V S w x M cn pc ls (.ref a :: st) σ := by
  intro H locs la h1 h2 h3
  obtain ⟨hf, ⟨hx, hb, -, hown, hts⟩, hK, -⟩ := id o
  have ha : a ∈ S.1 := hf.2.1 a (by rcases hk with hk | hk | hk | hk <;> (rw [hk]; decide))
  obtain ⟨q, hq⟩ := Wws_get hf σ ha
  rcases hk with hk | hk | hk
  · rw [cll_ints hk] at hq
    exact va_alen hx hb hK h1 q 0 hq rfl hv hd (k H locs la h1 h2 h3)
  · rw [cll_longs hk] at hq
    exact va_alen hx hb hK h1 q 1 hq rfl hv hd (k H locs la h1 h2 h3)
  · rw [cll_refs hk] at hq
    exact va_alen hx hb hK h1 q 2 hq rfl hv hd (k H locs la h1 h2 h3)
theorem cll_wI_ints {a j : Nat} {v : Int32} (hk : S.2.1 a = 10) : cll S w (wI σ a j v) a = .inl (w.2.2.2.2.2.1, S.2.2.1 a, .inl (upd (σ.1 a) j v)) := by
  rw [cll_ints hk]
  have e : (wI σ a j v).1 a = upd (σ.1 a) j v := by funext i; simp [wI, up2, upd]
  rw [e]
theorem V_iast {a : Nat} {i v : Int32} (o : Ok S w x own M) (hd : decode M.2.1 pc = .ok (.iastore, 1)) (hk : S.2.1 a = 10) (hi : vp_in i (S.2.2.1 a))
    (k : V S w x M cn (pc + 1) ls st (wI σ a (ix i) v)) : V S w x M cn pc ls (.int v :: .int i :: .ref a :: st) σ := by
  intro H locs la h1 h2 h3
  obtain ⟨hf, ⟨hx, hb, -, hown, hts⟩, hK, -⟩ := id o
  have ha : a ∈ S.1 := hf.2.1 a (by rw [hk]; decide)
  obtain ⟨q, hq0⟩ := Wws_get hf σ ha
  have hq := hq0
  rw [cll_ints hk] at hq
  refine va_iast hx hb hK h1 (Wws_D hf σ) h2 q 0 hq rfl hi hd (fun H1 locs1 g1 _ g3 => ?_)
  refine k H1 locs1 la ?_ g3 h3
  show va_P w.D vwCl (Wws S w (wI σ a (ix i) v)) H1
  rw [← Wws_set hf ha hq0 (fun b hb => cll_wI b hb), cll_wI_ints hk]
  exact g1
theorem cll_wL {a j : Nat} {v : Int64} (b : Nat) (h : b ≠ a) : cll S w (wL σ a j v) b = cll S w σ b := by
  have e1 : fvv S w (wL σ a j v) b = fvv S w σ b := by funext i; rfl
  have e2 : (wL σ a j v).2.1 b = σ.2.1 b := by funext i; simp [wL, up2, h]
  have e3 : ∀ i, trr S (wL σ a j v) b i = trr S σ b i := fun i => rfl
  simp only [cll, e1, e2, e3]; rfl
theorem V_last {a : Nat} {i : Int32} {v : Int64} (o : Ok S w x own M) (hd : decode M.2.1 pc = .ok (.lastore, 1)) (hk : S.2.1 a = 11) (hi : vp_in i (S.2.2.1 a))
    (k : V S w x M cn (pc + 1) ls st (wL σ a (ix i) v)) : V S w x M cn pc ls (.long v :: .int i :: .ref a :: st) σ := by
  intro H locs la h1 h2 h3
  obtain ⟨hf, ⟨hx, hb, -, hown, hts⟩, hK, -⟩ := id o
  have ha : a ∈ S.1 := hf.2.1 a (by rw [hk]; decide)
  obtain ⟨q, hq0⟩ := Wws_get hf σ ha
  have hq := hq0
  rw [cll_longs hk] at hq
  refine va_last hx hb hK h1 (Wws_D hf σ) h2 q 1 hq rfl hi hd (fun H1 locs1 g1 _ g3 => ?_)
  refine k H1 locs1 la ?_ g3 h3
  show va_P w.D vwCl (Wws S w (wL σ a (ix i) v)) H1
  rw [← Wws_set hf ha hq0 (fun b hb => cll_wL b hb), cll_longs hk]
  have e : (wL σ a (ix i) v).2.1 a = vp_updL (σ.2.1 a) (ix i) v := by funext j; simp [wL, up2, vp_updL]
  rw [e]
  exact g1
theorem cll_wT {a j : Nat} {v : Option Nat} (b : Nat) (h : b ≠ a) : cll S w (wT σ a j v) b = cll S w σ b := by
  have e1 : fvv S w (wT σ a j v) b = fvv S w σ b := by funext i; rfl
  have e3 : ∀ i, trr S (wT σ a j v) b i = trr S σ b i := fun i => by simp [trr, wT, up2, h]
  simp only [cll, e1, e3]; rfl
theorem V_aast {a t : Nat} {i : Int32} (o : Ok S w x own M) (hd : decode M.2.1 pc = .ok (.aastore, 1)) (hk : S.2.1 a = 12) (hi : vp_in i (S.2.2.1 a)) (ht : S.2.1 t = 6)
    (k : V S w x M cn (pc + 1) ls st (wT σ a (ix i) (some t))) : V S w x M cn pc ls (.ref t :: .int i :: .ref a :: st) σ := by
  intro H locs la h1 h2 h3
  obtain ⟨hf, ⟨hx, hb, -, hown, hts⟩, hK, -⟩ := id o
  have ha : a ∈ S.1 := hf.2.1 a (by rw [hk]; decide)
  have hta : t ∈ S.1 := hf.2.1 t (by rw [ht]; decide)
  obtain ⟨q, hq0⟩ := Wws_get hf σ ha
  obtain ⟨r, hr⟩ := Wws_get hf σ hta
  rw [cll_obj ht (by decide)] at hr
  have hq := hq0
  rw [cll_refs (Or.inl hk)] at hq
  refine va_astq hx hb hK h1 (Wws_D hf σ) h2 q 2 r 6 hq rfl hr rfl hi hd (fun H1 locs1 g1 _ g3 => ?_)
  refine k H1 locs1 la ?_ g3 h3
  show va_P w.D vwCl (Wws S w (wT σ a (ix i) (some t))) H1
  rw [← Wws_set hf ha hq0 (fun b hb => cll_wT b hb), cll_refs (Or.inl hk)]
  have e : (fun j => (trr S (wT σ a (ix i) (some t)) a j).map w.ad) = va_up (fun j => (trr S σ a j).map w.ad) (ix i) (some (w.ad t)) := by
    funext j
    by_cases hj : j = ix i
    · subst hj; simp [trr, hk, wT, up2, va_up]
    · simp [trr, hk, wT, up2, va_up, hj]
  rw [e]
  exact g1
end MEM
end
section
section CALL
def Rm (d : Nat) : Room := { frames := d, cells := 0, slots := 0, locals := 40 * d }
def Pw (S : Sh) (w : Wp) (σ : Mm) (U : State) : Prop := WH S w σ U.heap ∧ va_K w.D vwCl w.ty U ∧ ∀ n ∈ nws, va_Nw n U
def Qw (S : Sh) (w : Wp) (Q : Option Value → Mm → Prop) : Array Value → State → Outcome → State → Prop := fun _ st oc t => ∃ (v : Option Value) (σ' : Mm), oc = .returned (v.map (cvv w)) ∧ Q v σ' ∧ Pw S w σ' t ∧ va_F (Aw w) st t
/-- a method's contract: at depth d, from these arguments and this memory, it returns with Q -/
def Ct (S : Sh) (w : Wp) (d : Nat) (M : Md) (as : List Value) (σ : Mm) (Q : Option Value → Mm → Prop) : Prop :=
  Met w.l M.1 (Cond.code M.1 M.2.1 M.2.2.1 M.2.2.2 :: gw) (Rm d) (va_Pc (as.map (cvv w)) (Pw S w σ)) (Qw S w Q) 0 0 (Aw w)
def Rt (S : Sh) (w : Wp) (x : Cx) (d : Nat) (M : Md) (Q : Option Value → Mm → Prop) : Prop := x.R = Rm d ∧ x.F = MQ x.b (Qw S w Q) x.a x.s 0 0 (Aw w) ∧ x.me.sig.returnType = M.2.2.2 ∧ x.me.locks = false
theorem nws_warm {s U : State} (hW : s.WarmedH U.vm) (h : ∀ n ∈ nws, va_Nw n s) : ∀ n ∈ nws, va_Nw n U := by
  intro n hn
  obtain ⟨a, i, y, q, rfl⟩ := nws_nest hn
  exact va_Nw.warmM hW (h _ hn)
theorem nws_same {s U : State} (hW : s.vm = U.vm) (h : ∀ n ∈ nws, va_Nw n s) : ∀ n ∈ nws, va_Nw n U := by
  intro n hn
  obtain ⟨a, i, y, q, rfl⟩ := nws_nest hn
  exact va_Nw.same rfl hW (h _ hn)
theorem args_map (w : Wp) : ∀ (i : Nat) (as : List Value), lv_args i (as.map (cvv w)) = (lv_args i as).map (cvl w)
  | _, [] => rfl
  | i, v :: vs => by
    show (i, cvv w v) :: lv_args (if (cvv w v).category = 2 then i + 2 else i + 1) (vs.map (cvv w)) = cvl w (i, v) :: (lv_args (if v.category = 2 then i + 2 else i + 1) vs).map (cvl w)
    rw [cvv_cat, args_map w _ vs]
    rfl
theorem blind {S : Sh} {w : Wp} {σ : Mm} {as : List Value} : FrameBlind (va_Pc as (Pw S w σ)) := by
  intro a U g mk q
  obtain ⟨q0, qP, qK, qN⟩ := q
  exact ⟨q0, qP, va_K.moved (u := U) (U := U.calling g mk a) (Vm.Alike.refl U.vm) qK, nws_same (s := U) (U := U.calling g mk a) rfl qN⟩
theorem Ct_of {S : Sh} {w : Wp} {d : Nat} {M : Md} {as : List Value} {ls : List (Nat × Value)} {σ : Mm} {Q : Option Value → Mm → Prop} (hf : Fit S w) (hp : plainName M.1.cls = true) (hls : lv_args 0 as = ls) (hn : (lg_sl (as.map (cvv w))).length ≤ M.2.2.1)
    (h : ∀ x : Cx, Ok S w x M.1.cls M → Rt S w x d M Q → V S w x M (0, 0) 0 ls [] σ) : Ct S w d M as σ Q := by
  refine Met.ofW (cc := M.2.1) (maxL := M.2.2.1) (ret := M.2.2.2) hp rfl ?_
  intro p e s m args below meth c s₁ B hml hv
  obtain ⟨rfl, hP, hK, hN⟩ := hv
  have hts : ∀ q ∈ gw, q.before (as.map (cvv w)).toArray s = true := fun q hq => atoms_spec (ws := Cond.code M.1 M.2.1 M.2.2.1 M.2.2.2 :: gw) B.pre q (List.mem_cons_of_mem _ hq)
  have hown : s.vm.findClass M.1.cls = some m.cls := findClass_of_methodNamed B.named
  have hl := lv_entry (as.map (cvv w)) (n := M.2.2.1) hn
  rw [lg_entry_eq]
  rw [args_map, hls] at hl
  exact h (p, e, Rm d, s, m, (as.map (cvv w)).toArray, below, meth, c, MQ below (Qw S w Q) (as.map (cvv w)).toArray s 0 0 (Aw w)) ⟨hf, ⟨B.exec, B.bytes, hml, hown, hts⟩, hK, hN⟩ ⟨rfl, rfl, B.returns, B.notSynchronized⟩ s.heap [] _ hP va_S.rf hl
variable {S : Sh} {w : Wp} {x : Cx} {own : String} {M : Md} {cn : Nat × Nat} {pc d : Nat} {ls : List (Nat × Value)} {st : List Value} {σ : Mm} {Q : Option Value → Mm → Prop}
theorem Qw_end {H : Heap} {locs : List Loc} {v : Option Value} (o : Ok S w x own M) (h1 : WH S w σ H) (h2 : va_S (Aw w) x.s.heap H locs) (hq : Q v σ) : ∀ t : State, t.heap = H → x.s.WarmedH t.vm → Qw S w Q x.a x.s (.returned (v.map (cvv w))) t :=
  fun t ht hW => ⟨v, σ, rfl, hq, ⟨by rw [ht]; exact h1, va_K.moved hW.alike o.2.2.1, nws_warm hW o.2.2.2⟩, h2.F ht⟩
theorem V_iret {v : Int32} {ty : FieldType} (o : Ok S w x own M) (r : Rt S w x d M Q) (hd : decode M.2.1 pc = .ok (.ireturn, 1)) (ht : M.2.2.2 = some ty) (hn : narrow ty (.int v) = .int v) (hq : Q (some (.int v)) σ) : V S w x M (0, 0) pc ls [.int v] σ := by
  intro H locs la h1 h2 h3
  rw [r.2.1]
  exact W.zret o.2.1.1 o.2.1.2.1 (r.2.2.1.trans ht) hn (Qw_end o h1 h2 hq) h2.2.2 hd r.2.2.2
theorem V_lret {v : Int64} (o : Ok S w x own M) (r : Rt S w x d M Q) (hd : decode M.2.1 pc = .ok (.lreturn, 1)) (ht : M.2.2.2 = some .long) (hq : Q (some (.long v)) σ) : V S w x M (0, 0) pc ls [.long v] σ := by
  intro H locs la h1 h2 h3
  rw [r.2.1]
  exact W.lret o.2.1.1 o.2.1.2.1 (r.2.2.1.trans ht) (Qw_end o h1 h2 hq) h2.2.2 hd r.2.2.2
theorem V_ret (o : Ok S w x own M) (r : Rt S w x d M Q) (hd : decode M.2.1 pc = .ok (.return_, 1)) (ht : M.2.2.2 = none) (hq : Q none σ) : V S w x M (0, 0) pc ls [] σ := by
  intro H locs la h1 h2 h3
  rw [r.2.1]
  exact W.vret o.2.1.1 o.2.1.2.1 (r.2.2.1.trans ht) (Qw_end o h1 h2 hq) h2.2.2 hd r.2.2.2
theorem V_aretR {a : Nat} {n : String} (o : Ok S w x own M) (r : Rt S w x d M Q) (hd : decode M.2.1 pc = .ok (.areturn, 1)) (ht : M.2.2.2 = some (.object n)) (hq : Q (some (.ref a)) σ) : V S w x M (0, 0) pc ls [.ref a] σ := by
  intro H locs la h1 h2 h3
  rw [r.2.1]
  exact W.aret o.2.1.1 o.2.1.2.1 (r.2.2.1.trans ht) (Or.inl ⟨n, rfl⟩) (Or.inr ⟨_, rfl⟩) (Qw_end o h1 h2 hq) h2.2.2 hd r.2.2.2
theorem V_aretN {n : String} (o : Ok S w x own M) (r : Rt S w x d M Q) (hd : decode M.2.1 pc = .ok (.areturn, 1)) (ht : M.2.2.2 = some (.object n)) (hq : Q (some .null) σ) : V S w x M (0, 0) pc ls [.null] σ := by
  intro H locs la h1 h2 h3
  rw [r.2.1]
  exact W.aret o.2.1.1 o.2.1.2.1 (r.2.2.1.trans ht) (Or.inl ⟨n, rfl⟩) (Or.inl rfl) (Qw_end o h1 h2 hq) h2.2.2 hd r.2.2.2
theorem stk_map (r : Option Value) (st : List Value) : (r.map (cvv w)).toList ++ st.map (cvv w) = (r.toList ++ st).map (cvv w) := by
  cases r <;> simp
theorem V_run {st0 : List Value} {a : Array Value} (hr : ∀ H locs la, WH S w σ H → lv_has la M.2.2.1 (ls.map (cvl w)) → va_Run x.p w.l x.e x.R x.s x.m x.a x.b x.me x.c H locs cn.1 cn.2 0 0 (F0 x.m pc la (st0.map (cvv w))) (st.map (cvv w)) (Qw S w Q a) (Aw w))
    (k : ∀ r σ', Q r σ' → V S w x M cn (pc + 3) ls (r.toList ++ st) σ') : V S w x M cn pc ls st0 σ := by
  intro H locs la h1 h2 h3 T hT X
  obtain ⟨v, st₀, t, T', L, h0, X', hL, e1, e2, ⟨r, σ', hv, hq, ⟨hP, -, -⟩, hz, hk⟩, st⟩ := hr H locs la h1 h3 T hT X
  cases hv
  rw [h0] at hz hk
  have hS : va_S (Aw w) x.s.heap T'.heap (locs ++ L) := ⟨Nat.le_trans h2.1 (by rw [e1]; exact hz), fun q g1 g2 => by rw [e1, hk q (Nat.lt_of_lt_of_le g1 h2.1) g2]; exact h2.2.1 q g1 g2, fun q hq => by
    rcases List.mem_append.mp hq with h | h
    · exact h2.2.2 q h
    · exact hL q h⟩
  obtain ⟨t2, a1, b1⟩ := k r σ' hq T'.heap (locs ++ L) la (by rw [e1]; exact hP) hS h3 T' rfl X'
  refine ⟨t2, st t2 ?_, b1⟩
  rw [← stk_map] at a1
  exact a1
theorem Pw_at {H : Heap} (o : Ok S w x own M) (h1 : WH S w σ H) {as : List Value} : ∀ U : State, U.heap = H → x.s.WarmedH U.vm → va_Pc as (Pw S w σ) as.toArray U :=
  fun U hU hW => ⟨rfl, by rw [hU]; exact h1, va_K.moved hW.alike o.2.2.1, nws_warm hW o.2.2.2⟩
/-- links of calls: the callee's code stands, it has so many parameters -/
def Lc (M' : Md) (n : Nat) : Prop := Cond.code M'.1 M'.2.1 M'.2.2.1 M'.2.2.2 ∈ gw ∧ M'.1.cls ≠ "java/lang/invoke/MethodHandle" ∧ M'.1.cls ≠ "java/lang/invoke/VarHandle" ∧ (parseMethodDescriptor M'.1.desc).map (fun d => d.parameters.length) = some n
def LV (own : String) (idx ci : Nat) (M' : Md) (n : Nat) : Prop := ci < 10 ∧ Lc M' n ∧ M'.1.cls = RXn ci ∧ Cond.methodLink own idx M'.1 ∈ gw ∧ Cond.instanceMethod M'.1 ∈ gw ∧ Cond.selects (RXn ci) M'.1 M'.1 ∈ gw ∧ Cond.initialized (RXn ci) ∈ gw
def Lst (own : String) (idx : Nat) (M' : Md) (n : Nat) : Prop := Lc M' n ∧ Cond.methodLink own idx M'.1 ∈ gw ∧ Cond.static M'.1 ∈ gw ∧ Cond.initialized M'.1.cls ∈ gw
def Lsn (own : String) (idx : Nat) (M' : Md) (n : Nat) : Prop := Lc M' n ∧ (∃ host, Cond.methodLinkNest own idx M'.1 host ∈ nws) ∧ Cond.static M'.1 ∈ gw ∧ Cond.initialized M'.1.cls ∈ gw
theorem good_ws {M' : Md} {n : Nat} (h : Lc M' n) : GoodIn gw (Cond.code M'.1 M'.2.1 M'.2.2.1 M'.2.2.2 :: gw) := fun q hq => by
  rcases List.mem_cons.mp hq with rfl | hq
  · exact ⟨h.1, gw_good h.1⟩
  · exact ⟨hq, gw_good hq⟩
theorem callB_x {R : Room} {idx n d' : Nat} {M' : Md} (o : Ok S w x own M) (hl : Lc M' n) (hm : Cond.methodLink own idx M'.1 ∈ gw) (hi : Cond.initialized M'.1.cls ∈ gw) (hR : d' + 1 ≤ R.frames ∧ 8 + (M'.2.2.1 + 11) + 40 * d' ≤ R.locals) :
    CallB R x.s x.a own idx M'.1 M'.2.1 M'.2.2.1 M'.2.2.2 (Cond.code M'.1 M'.2.1 M'.2.2.1 M'.2.2.2 :: gw) (Rm d') 0 0 n :=
  callB_of (rm := Rm d') n o.2.1.2.2.2.2 (good_ws hl) rfl rfl rfl (o.2.1.2.2.2.2 _ hi) (o.2.1.2.2.2.2 _ hm) hl.2 hR
theorem V_callVx {idx ci a n d' : Nat} {M' : Md} {As st0 : List Value} (o : Ok S w x own M) (hd : decode M.2.1 pc = .ok (.invokevirtual idx, 3)) (hl : LV own idx ci M' n) (hc : Ct S w d' M' (.ref a :: As) σ Q) (hk : S.2.1 a = ci) (hn : As.length = n) (hst : st0 = As.reverse ++ .ref a :: st)
    (hs : (st.map Value.category).sum ≤ 8) (hR : d' + 1 ≤ x.R.frames ∧ 8 + (M'.2.2.1 + 11) + 40 * d' ≤ x.R.locals) (hcs : cn.1 ≤ x.R.cells ∧ cn.2 ≤ x.R.slots)
    (k : ∀ r σ', Q r σ' → V S w x M cn (pc + 3) ls (r.toList ++ st) σ') : V S w x M cn pc ls st0 σ := by
  refine V_run (a := ((Value.ref (w.ad a)) :: As.map (cvv w)).toArray) (fun H locs la h1 h3 => ?_) k
  obtain ⟨hc10, hlc, hcl, hml, hin, hse, hi⟩ := hl
  have ha : a ∈ S.1 := o.1.2.1 a (by rw [hk]; exact Nat.lt_of_lt_of_le hc10 (by decide))
  obtain ⟨q, hq⟩ := Wws_get o.1 σ ha
  rw [cll_obj hk hc10] at hq
  have hrec := va_recv o.2.2.1 h1 (vwCl_at hc10) hq
  have hcat : ((st.map (cvv w)).map fun v => v.category).sum ≤ 8 := by
    rw [List.map_map]
    have e : ((fun v : Value => v.category) ∘ cvv w) = Value.category := by funext v; exact cvv_cat w v
    rw [e]; exact hs
  exact va_runV (As := As.map (cvv w)) (rest := st.map (cvv w)) (b := w.ad a) (C := RXn ci) o.2.1 hc ⟨callB_x o hlc hml (by rw [hcl]; exact hi) hR, o.2.1.2.2.2.2 _ hin, o.2.1.2.2.2.2 _ hse⟩ ⟨blind, hrec, Pw_at o h1⟩ rfl (by simpa using hn) h3.1 (by subst hst; simp [cvv]) (lv_room hcat) hd hcs
theorem V_callSx {idx n d' : Nat} {M' : Md} {As st0 : List Value} (o : Ok S w x own M) (hd : decode M.2.1 pc = .ok (.invokestatic idx, 3)) (hl : Lst own idx M' n) (hc : Ct S w d' M' As σ Q) (hn : As.length = n) (hst : st0 = As.reverse ++ st)
    (hs : (st.map Value.category).sum ≤ 8) (hR : d' + 1 ≤ x.R.frames ∧ 8 + (M'.2.2.1 + 11) + 40 * d' ≤ x.R.locals) (hcs : cn.1 ≤ x.R.cells ∧ cn.2 ≤ x.R.slots)
    (k : ∀ r σ', Q r σ' → V S w x M cn (pc + 3) ls (r.toList ++ st) σ') : V S w x M cn pc ls st0 σ := by
  refine V_run (a := (As.map (cvv w)).toArray) (fun H locs la h1 h3 => ?_) k
  obtain ⟨hlc, hml, hsta, hi⟩ := hl
  have hcat : ((st.map (cvv w)).map fun v => v.category).sum ≤ 8 := by
    rw [List.map_map]
    have e : ((fun v : Value => v.category) ∘ cvv w) = Value.category := by funext v; exact cvv_cat w v
    rw [e]; exact hs
  exact va_runS (As := As.map (cvv w)) (rest := st.map (cvv w)) o.2.1 hc ⟨callB_x o hlc hml hi hR, o.2.1.2.2.2.2 _ hsta⟩ ⟨blind, Pw_at o h1⟩ rfl (by simpa using hn) h3.1 (by subst hst; simp) (lv_room hcat) hd hcs
theorem V_callSNx {idx n d' : Nat} {M' : Md} {As st0 : List Value} (o : Ok S w x own M) (hd : decode M.2.1 pc = .ok (.invokestatic idx, 3)) (hl : Lsn own idx M' n) (hc : Ct S w d' M' As σ Q) (hn : As.length = n) (hst : st0 = As.reverse ++ st)
    (hs : (st.map Value.category).sum ≤ 8) (hR : d' + 1 ≤ x.R.frames ∧ 8 + (M'.2.2.1 + 11) + 40 * d' ≤ x.R.locals) (hcs : cn.1 ≤ x.R.cells ∧ cn.2 ≤ x.R.slots)
    (k : ∀ r σ', Q r σ' → V S w x M cn (pc + 3) ls (r.toList ++ st) σ') : V S w x M cn pc ls st0 σ := by
  refine V_run (a := (As.map (cvv w)).toArray) (fun H locs la h1 h3 => ?_) k
  obtain ⟨hlc, ⟨host, hml⟩, hsta, hi⟩ := hl
  have hcat : ((st.map (cvv w)).map fun v => v.category).sum ≤ 8 := by
    rw [List.map_map]
    have e : ((fun v : Value => v.category) ∘ cvv w) = Value.category := by funext v; exact cvv_cat w v
    rw [e]; exact hs
  exact va_runSN (As := As.map (cvv w)) (rest := st.map (cvv w)) (host := host) o.2.1 hc ⟨va_cnB (rm := Rm d') n o.2.1.2.2.2.2 (good_ws hlc) rfl rfl rfl (o.2.2.2 _ hml) (o.2.1.2.2.2.2 _ hi) hlc.2 hR, o.2.1.2.2.2.2 _ hsta, trivial⟩ ⟨blind, Pw_at o h1⟩ rfl (by simpa using hn) h3.1 (by subst hst; simp) (lv_room hcat) hd hcs
theorem Rt_room {d' n : Nat} (r : Rt S w x d M Q) (h : (Nat.ble (d' + 1) d && Nat.ble (8 + (n + 11) + 40 * d') (40 * d)) = true) : d' + 1 ≤ x.R.frames ∧ 8 + (n + 11) + 40 * d' ≤ x.R.locals := by
  rw [r.1]
  rw [Bool.and_eq_true] at h
  exact ⟨Nat.le_of_ble_eq_true h.1, Nat.le_of_ble_eq_true h.2⟩
theorem Rt_cells (r : Rt S w x d M Q) : ((0, 0) : Nat × Nat).1 ≤ x.R.cells ∧ ((0, 0) : Nat × Nat).2 ≤ x.R.slots := ⟨Nat.zero_le _, Nat.zero_le _⟩
/-- calls from a method -/
theorem V_callV {idx ci a n d' : Nat} {M' : Md} {As st0 : List Value} {Q' : Option Value → Mm → Prop} (o : Ok S w x own M) (r : Rt S w x d M Q') (hd : decode M.2.1 pc = .ok (.invokevirtual idx, 3)) (hl : LV own idx ci M' n) (hc : Ct S w d' M' (.ref a :: As) σ Q) (hk : S.2.1 a = ci) (hn : As.length = n) (hst : st0 = As.reverse ++ .ref a :: st)
    (hs : (st.map Value.category).sum ≤ 8) (hR : (Nat.ble (d' + 1) d && Nat.ble (8 + (M'.2.2.1 + 11) + 40 * d') (40 * d)) = true)
    (k : ∀ r σ', Q r σ' → V S w x M (0, 0) (pc + 3) ls (r.toList ++ st) σ') : V S w x M (0, 0) pc ls st0 σ := V_callVx o hd hl hc hk hn hst hs (Rt_room r hR) (Rt_cells r) k
theorem V_callS {idx n d' : Nat} {M' : Md} {As st0 : List Value} {Q' : Option Value → Mm → Prop} (o : Ok S w x own M) (r : Rt S w x d M Q') (hd : decode M.2.1 pc = .ok (.invokestatic idx, 3)) (hl : Lst own idx M' n) (hc : Ct S w d' M' As σ Q) (hn : As.length = n) (hst : st0 = As.reverse ++ st)
    (hs : (st.map Value.category).sum ≤ 8) (hR : (Nat.ble (d' + 1) d && Nat.ble (8 + (M'.2.2.1 + 11) + 40 * d') (40 * d)) = true)
    (k : ∀ r σ', Q r σ' → V S w x M (0, 0) (pc + 3) ls (r.toList ++ st) σ') : V S w x M (0, 0) pc ls st0 σ := V_callSx o hd hl hc hn hst hs (Rt_room r hR) (Rt_cells r) k
theorem V_callSN {idx n d' : Nat} {M' : Md} {As st0 : List Value} {Q' : Option Value → Mm → Prop} (o : Ok S w x own M) (r : Rt S w x d M Q') (hd : decode M.2.1 pc = .ok (.invokestatic idx, 3)) (hl : Lsn own idx M' n) (hc : Ct S w d' M' As σ Q) (hn : As.length = n) (hst : st0 = As.reverse ++ st)
    (hs : (st.map Value.category).sum ≤ 8) (hR : (Nat.ble (d' + 1) d && Nat.ble (8 + (M'.2.2.1 + 11) + 40 * d') (40 * d)) = true)
    (k : ∀ r σ', Q r σ' → V S w x M (0, 0) (pc + 3) ls (r.toList ++ st) σ') : V S w x M (0, 0) pc ls st0 σ := V_callSNx o hd hl hc hn hst hs (Rt_room r hR) (Rt_cells r) k
end CALL
end
