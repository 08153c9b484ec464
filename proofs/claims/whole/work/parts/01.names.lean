-- ===== PART A: goes FIRST, ahead of the names: the tables' words, and 'selects' of the private methods out of them =====
/-- a private method of a class that the tables say can be made, by its rows of tables_1 -/
def lw_okq (q : MethodName × Nat) : Prop := (q.1.cls ≠ "java/lang/invoke/MethodHandle" ∧ q.1.cls ≠ "java/lang/invoke/VarHandle") ∧ Cond.instantiable q.1.cls q.2 ∈ tables_1 ∧ Cond.privateMethod q.1 ∈ tables_1 ∧ Cond.instanceMethod q.1 ∈ tables_1
theorem lw_p0 : lw_okq (⟨"SieveGuests", "refuse", "(I)I"⟩, 10) := ⟨⟨by decide +kernel, by decide +kernel⟩, List.mem_of_getElem? (i := 18) (by decide +kernel), List.mem_of_getElem? (i := 257) (by decide +kernel), List.mem_of_getElem? (i := 258) (by decide +kernel)⟩
theorem lw_p1 : lw_okq (⟨"SieveGuests", "keepFraction", "(I)V"⟩, 10) := ⟨⟨by decide +kernel, by decide +kernel⟩, List.mem_of_getElem? (i := 18) (by decide +kernel), List.mem_of_getElem? (i := 778) (by decide +kernel), List.mem_of_getElem? (i := 779) (by decide +kernel)⟩
theorem lw_p2 : lw_okq (⟨"SieveGuests", "countOf", "(I)I"⟩, 10) := ⟨⟨by decide +kernel, by decide +kernel⟩, List.mem_of_getElem? (i := 18) (by decide +kernel), List.mem_of_getElem? (i := 814) (by decide +kernel), List.mem_of_getElem? (i := 815) (by decide +kernel)⟩
theorem lw_p3 : lw_okq (⟨"SieveGuestsModel", "refuse", "(I)I"⟩, 18) := ⟨⟨by decide +kernel, by decide +kernel⟩, List.mem_of_getElem? (i := 833) (by decide +kernel), List.mem_of_getElem? (i := 902) (by decide +kernel), List.mem_of_getElem? (i := 903) (by decide +kernel)⟩
theorem lw_p4 : lw_okq (⟨"SieveGuestsModel", "layUplands", "(I)V"⟩, 18) := ⟨⟨by decide +kernel, by decide +kernel⟩, List.mem_of_getElem? (i := 833) (by decide +kernel), List.mem_of_getElem? (i := 906) (by decide +kernel), List.mem_of_getElem? (i := 907) (by decide +kernel)⟩
theorem lw_p5 : lw_okq (⟨"SieveGuestsModel", "addGuest", "(II)V"⟩, 18) := ⟨⟨by decide +kernel, by decide +kernel⟩, List.mem_of_getElem? (i := 833) (by decide +kernel), List.mem_of_getElem? (i := 914) (by decide +kernel), List.mem_of_getElem? (i := 915) (by decide +kernel)⟩
theorem lw_p6 : lw_okq (⟨"SieveGuestsModel", "addHouse", "(II)V"⟩, 18) := ⟨⟨by decide +kernel, by decide +kernel⟩, List.mem_of_getElem? (i := 833) (by decide +kernel), List.mem_of_getElem? (i := 922) (by decide +kernel), List.mem_of_getElem? (i := 923) (by decide +kernel)⟩
theorem lw_p7 : lw_okq (⟨"SieveGuestsModel", "readItems", "(Z)I"⟩, 18) := ⟨⟨by decide +kernel, by decide +kernel⟩, List.mem_of_getElem? (i := 833) (by decide +kernel), List.mem_of_getElem? (i := 938) (by decide +kernel), List.mem_of_getElem? (i := 939) (by decide +kernel)⟩
theorem lw_p8 : lw_okq (⟨"SieveGuestsModel", "next", "()V"⟩, 18) := ⟨⟨by decide +kernel, by decide +kernel⟩, List.mem_of_getElem? (i := 833) (by decide +kernel), List.mem_of_getElem? (i := 942) (by decide +kernel), List.mem_of_getElem? (i := 943) (by decide +kernel)⟩
theorem lw_p9 : lw_okq (⟨"SieveGuestsModel", "isLetter", "(I)Z"⟩, 18) := ⟨⟨by decide +kernel, by decide +kernel⟩, List.mem_of_getElem? (i := 833) (by decide +kernel), List.mem_of_getElem? (i := 946) (by decide +kernel), List.mem_of_getElem? (i := 947) (by decide +kernel)⟩
theorem lw_p10 : lw_okq (⟨"SieveGuestsModel", "isFigure", "(I)Z"⟩, 18) := ⟨⟨by decide +kernel, by decide +kernel⟩, List.mem_of_getElem? (i := 833) (by decide +kernel), List.mem_of_getElem? (i := 950) (by decide +kernel), List.mem_of_getElem? (i := 951) (by decide +kernel)⟩
theorem lw_p11 : lw_okq (⟨"SieveGuestsModel", "wordHere", "()I"⟩, 18) := ⟨⟨by decide +kernel, by decide +kernel⟩, List.mem_of_getElem? (i := 833) (by decide +kernel), List.mem_of_getElem? (i := 954) (by decide +kernel), List.mem_of_getElem? (i := 955) (by decide +kernel)⟩
theorem lw_p12 : lw_okq (⟨"SieveGuestsModel", "isWord", "(I)Z"⟩, 18) := ⟨⟨by decide +kernel, by decide +kernel⟩, List.mem_of_getElem? (i := 833) (by decide +kernel), List.mem_of_getElem? (i := 958) (by decide +kernel), List.mem_of_getElem? (i := 959) (by decide +kernel)⟩
theorem lw_p13 : lw_okq (⟨"SieveGuestsModel", "readsItem", "(I)Z"⟩, 18) := ⟨⟨by decide +kernel, by decide +kernel⟩, List.mem_of_getElem? (i := 833) (by decide +kernel), List.mem_of_getElem? (i := 962) (by decide +kernel), List.mem_of_getElem? (i := 963) (by decide +kernel)⟩
theorem lw_p14 : lw_okq (⟨"SieveGuestsModel", "readsUplands", "()Z"⟩, 18) := ⟨⟨by decide +kernel, by decide +kernel⟩, List.mem_of_getElem? (i := 833) (by decide +kernel), List.mem_of_getElem? (i := 966) (by decide +kernel), List.mem_of_getElem? (i := 967) (by decide +kernel)⟩
theorem lw_p15 : lw_okq (⟨"SieveGuestsModel", "number", "(II)I"⟩, 18) := ⟨⟨by decide +kernel, by decide +kernel⟩, List.mem_of_getElem? (i := 833) (by decide +kernel), List.mem_of_getElem? (i := 970) (by decide +kernel), List.mem_of_getElem? (i := 971) (by decide +kernel)⟩
def lw_privs_1 : List (MethodName × Nat) := [(⟨"SieveGuests", "refuse", "(I)I"⟩, 10), (⟨"SieveGuests", "keepFraction", "(I)V"⟩, 10), (⟨"SieveGuests", "countOf", "(I)I"⟩, 10), (⟨"SieveGuestsModel", "refuse", "(I)I"⟩, 18), (⟨"SieveGuestsModel", "layUplands", "(I)V"⟩, 18), (⟨"SieveGuestsModel", "addGuest", "(II)V"⟩, 18), (⟨"SieveGuestsModel", "addHouse", "(II)V"⟩, 18), (⟨"SieveGuestsModel", "readItems", "(Z)I"⟩, 18), (⟨"SieveGuestsModel", "next", "()V"⟩, 18), (⟨"SieveGuestsModel", "isLetter", "(I)Z"⟩, 18), (⟨"SieveGuestsModel", "isFigure", "(I)Z"⟩, 18), (⟨"SieveGuestsModel", "wordHere", "()I"⟩, 18), (⟨"SieveGuestsModel", "isWord", "(I)Z"⟩, 18), (⟨"SieveGuestsModel", "readsItem", "(I)Z"⟩, 18), (⟨"SieveGuestsModel", "readsUplands", "()Z"⟩, 18), (⟨"SieveGuestsModel", "number", "(II)I"⟩, 18)]
theorem lw_r1 : ∀ q ∈ lw_privs_1, lw_okq q := List.forall_mem_cons.mpr ⟨lw_p0, List.forall_mem_cons.mpr ⟨lw_p1, List.forall_mem_cons.mpr ⟨lw_p2, List.forall_mem_cons.mpr ⟨lw_p3, List.forall_mem_cons.mpr ⟨lw_p4, List.forall_mem_cons.mpr ⟨lw_p5, List.forall_mem_cons.mpr ⟨lw_p6, List.forall_mem_cons.mpr ⟨lw_p7, List.forall_mem_cons.mpr ⟨lw_p8, List.forall_mem_cons.mpr ⟨lw_p9, List.forall_mem_cons.mpr ⟨lw_p10, List.forall_mem_cons.mpr ⟨lw_p11, List.forall_mem_cons.mpr ⟨lw_p12, List.forall_mem_cons.mpr ⟨lw_p13, List.forall_mem_cons.mpr ⟨lw_p14, List.forall_mem_cons.mpr ⟨lw_p15, fun _ h => absurd h List.not_mem_nil⟩⟩⟩⟩⟩⟩⟩⟩⟩⟩⟩⟩⟩⟩⟩⟩
theorem lw_p16 : lw_okq (⟨"SieveGuestsModel", "readsGuest", "()Z"⟩, 18) := ⟨⟨by decide +kernel, by decide +kernel⟩, List.mem_of_getElem? (i := 833) (by decide +kernel), List.mem_of_getElem? (i := 974) (by decide +kernel), List.mem_of_getElem? (i := 975) (by decide +kernel)⟩
theorem lw_p17 : lw_okq (⟨"SieveGuestsModel", "readsHouse", "()Z"⟩, 18) := ⟨⟨by decide +kernel, by decide +kernel⟩, List.mem_of_getElem? (i := 833) (by decide +kernel), List.mem_of_getElem? (i := 978) (by decide +kernel), List.mem_of_getElem? (i := 979) (by decide +kernel)⟩
theorem lw_p18 : lw_okq (⟨"SieveGuestsModel", "readsGoing", "(Z)Z"⟩, 18) := ⟨⟨by decide +kernel, by decide +kernel⟩, List.mem_of_getElem? (i := 833) (by decide +kernel), List.mem_of_getElem? (i := 982) (by decide +kernel), List.mem_of_getElem? (i := 983) (by decide +kernel)⟩
theorem lw_p19 : lw_okq (⟨"SieveGuestsModel", "goBy", "(I)V"⟩, 18) := ⟨⟨by decide +kernel, by decide +kernel⟩, List.mem_of_getElem? (i := 833) (by decide +kernel), List.mem_of_getElem? (i := 986) (by decide +kernel), List.mem_of_getElem? (i := 987) (by decide +kernel)⟩
theorem lw_p20 : lw_okq (⟨"SieveGuestsModel", "passes", "(I)V"⟩, 18) := ⟨⟨by decide +kernel, by decide +kernel⟩, List.mem_of_getElem? (i := 833) (by decide +kernel), List.mem_of_getElem? (i := 990) (by decide +kernel), List.mem_of_getElem? (i := 991) (by decide +kernel)⟩
theorem lw_p21 : lw_okq (⟨"SieveGuestsModel", "companyIn", "(III)I"⟩, 18) := ⟨⟨by decide +kernel, by decide +kernel⟩, List.mem_of_getElem? (i := 833) (by decide +kernel), List.mem_of_getElem? (i := 994) (by decide +kernel), List.mem_of_getElem? (i := 995) (by decide +kernel)⟩
theorem lw_p22 : lw_okq (⟨"SieveGuestsModel", "staysOf", "(III)I"⟩, 18) := ⟨⟨by decide +kernel, by decide +kernel⟩, List.mem_of_getElem? (i := 833) (by decide +kernel), List.mem_of_getElem? (i := 998) (by decide +kernel), List.mem_of_getElem? (i := 999) (by decide +kernel)⟩
theorem lw_p23 : lw_okq (⟨"SieveGuestsModel", "needOf", "(II)I"⟩, 18) := ⟨⟨by decide +kernel, by decide +kernel⟩, List.mem_of_getElem? (i := 833) (by decide +kernel), List.mem_of_getElem? (i := 1002) (by decide +kernel), List.mem_of_getElem? (i := 1003) (by decide +kernel)⟩
theorem lw_p24 : lw_okq (⟨"SieveGuestsModel", "isGuest", "(I)Z"⟩, 18) := ⟨⟨by decide +kernel, by decide +kernel⟩, List.mem_of_getElem? (i := 833) (by decide +kernel), List.mem_of_getElem? (i := 1025) (by decide +kernel), List.mem_of_getElem? (i := 1026) (by decide +kernel)⟩
theorem lw_p25 : lw_okq (⟨"SieveGuestsModel", "isHouse", "(I)Z"⟩, 18) := ⟨⟨by decide +kernel, by decide +kernel⟩, List.mem_of_getElem? (i := 833) (by decide +kernel), List.mem_of_getElem? (i := 1029) (by decide +kernel), List.mem_of_getElem? (i := 1030) (by decide +kernel)⟩
theorem lw_p26 : lw_okq (⟨"SieveGuestsModel", "keepPast", "()V"⟩, 18) := ⟨⟨by decide +kernel, by decide +kernel⟩, List.mem_of_getElem? (i := 833) (by decide +kernel), List.mem_of_getElem? (i := 1033) (by decide +kernel), List.mem_of_getElem? (i := 1034) (by decide +kernel)⟩
theorem lw_p27 : lw_okq (⟨"SieveGuestsModel", "allLiking", "(I)I"⟩, 18) := ⟨⟨by decide +kernel, by decide +kernel⟩, List.mem_of_getElem? (i := 833) (by decide +kernel), List.mem_of_getElem? (i := 1049) (by decide +kernel), List.mem_of_getElem? (i := 1050) (by decide +kernel)⟩
theorem lw_p28 : lw_okq (⟨"SieveGuestsModel", "layTried", "()V"⟩, 18) := ⟨⟨by decide +kernel, by decide +kernel⟩, List.mem_of_getElem? (i := 833) (by decide +kernel), List.mem_of_getElem? (i := 1077) (by decide +kernel), List.mem_of_getElem? (i := 1078) (by decide +kernel)⟩
theorem lw_p29 : lw_okq (⟨"SieveGuestsModel", "badAs", "(I)I"⟩, 18) := ⟨⟨by decide +kernel, by decide +kernel⟩, List.mem_of_getElem? (i := 833) (by decide +kernel), List.mem_of_getElem? (i := 1104) (by decide +kernel), List.mem_of_getElem? (i := 1105) (by decide +kernel)⟩
theorem lw_p30 : lw_okq (⟨"SieveGuestsModel", "gainBy", "()I"⟩, 18) := ⟨⟨by decide +kernel, by decide +kernel⟩, List.mem_of_getElem? (i := 833) (by decide +kernel), List.mem_of_getElem? (i := 1108) (by decide +kernel), List.mem_of_getElem? (i := 1109) (by decide +kernel)⟩
theorem lw_p31 : lw_okq (⟨"SieveGuestsModel", "nextLine", "()Z"⟩, 18) := ⟨⟨by decide +kernel, by decide +kernel⟩, List.mem_of_getElem? (i := 833) (by decide +kernel), List.mem_of_getElem? (i := 1112) (by decide +kernel), List.mem_of_getElem? (i := 1113) (by decide +kernel)⟩
def lw_privs_2 : List (MethodName × Nat) := [(⟨"SieveGuestsModel", "readsGuest", "()Z"⟩, 18), (⟨"SieveGuestsModel", "readsHouse", "()Z"⟩, 18), (⟨"SieveGuestsModel", "readsGoing", "(Z)Z"⟩, 18), (⟨"SieveGuestsModel", "goBy", "(I)V"⟩, 18), (⟨"SieveGuestsModel", "passes", "(I)V"⟩, 18), (⟨"SieveGuestsModel", "companyIn", "(III)I"⟩, 18), (⟨"SieveGuestsModel", "staysOf", "(III)I"⟩, 18), (⟨"SieveGuestsModel", "needOf", "(II)I"⟩, 18), (⟨"SieveGuestsModel", "isGuest", "(I)Z"⟩, 18), (⟨"SieveGuestsModel", "isHouse", "(I)Z"⟩, 18), (⟨"SieveGuestsModel", "keepPast", "()V"⟩, 18), (⟨"SieveGuestsModel", "allLiking", "(I)I"⟩, 18), (⟨"SieveGuestsModel", "layTried", "()V"⟩, 18), (⟨"SieveGuestsModel", "badAs", "(I)I"⟩, 18), (⟨"SieveGuestsModel", "gainBy", "()I"⟩, 18), (⟨"SieveGuestsModel", "nextLine", "()Z"⟩, 18)]
theorem lw_r2 : ∀ q ∈ lw_privs_2, lw_okq q := List.forall_mem_cons.mpr ⟨lw_p16, List.forall_mem_cons.mpr ⟨lw_p17, List.forall_mem_cons.mpr ⟨lw_p18, List.forall_mem_cons.mpr ⟨lw_p19, List.forall_mem_cons.mpr ⟨lw_p20, List.forall_mem_cons.mpr ⟨lw_p21, List.forall_mem_cons.mpr ⟨lw_p22, List.forall_mem_cons.mpr ⟨lw_p23, List.forall_mem_cons.mpr ⟨lw_p24, List.forall_mem_cons.mpr ⟨lw_p25, List.forall_mem_cons.mpr ⟨lw_p26, List.forall_mem_cons.mpr ⟨lw_p27, List.forall_mem_cons.mpr ⟨lw_p28, List.forall_mem_cons.mpr ⟨lw_p29, List.forall_mem_cons.mpr ⟨lw_p30, List.forall_mem_cons.mpr ⟨lw_p31, fun _ h => absurd h List.not_mem_nil⟩⟩⟩⟩⟩⟩⟩⟩⟩⟩⟩⟩⟩⟩⟩⟩
theorem lw_p32 : lw_okq (⟨"SieveGuestsModel", "isSize", "(II)Z"⟩, 18) := ⟨⟨by decide +kernel, by decide +kernel⟩, List.mem_of_getElem? (i := 833) (by decide +kernel), List.mem_of_getElem? (i := 1124) (by decide +kernel), List.mem_of_getElem? (i := 1125) (by decide +kernel)⟩
theorem lw_p33 : lw_okq (⟨"SieveGuestsModel", "mostAt", "(II)I"⟩, 18) := ⟨⟨by decide +kernel, by decide +kernel⟩, List.mem_of_getElem? (i := 833) (by decide +kernel), List.mem_of_getElem? (i := 1132) (by decide +kernel), List.mem_of_getElem? (i := 1133) (by decide +kernel)⟩
theorem lw_p34 : lw_okq (⟨"SieveGuestsModel", "kindsOf", "(I)I"⟩, 18) := ⟨⟨by decide +kernel, by decide +kernel⟩, List.mem_of_getElem? (i := 833) (by decide +kernel), List.mem_of_getElem? (i := 1152) (by decide +kernel), List.mem_of_getElem? (i := 1153) (by decide +kernel)⟩
theorem lw_p35 : lw_okq (⟨"SieveGuestsModel", "mostAlike", "(I)I"⟩, 18) := ⟨⟨by decide +kernel, by decide +kernel⟩, List.mem_of_getElem? (i := 833) (by decide +kernel), List.mem_of_getElem? (i := 1160) (by decide +kernel), List.mem_of_getElem? (i := 1161) (by decide +kernel)⟩
theorem lw_p36 : lw_okq (⟨"SieveGuestsModel", "sievesOf", "(I)I"⟩, 18) := ⟨⟨by decide +kernel, by decide +kernel⟩, List.mem_of_getElem? (i := 833) (by decide +kernel), List.mem_of_getElem? (i := 1168) (by decide +kernel), List.mem_of_getElem? (i := 1169) (by decide +kernel)⟩
theorem lw_p37 : lw_okq (⟨"SieveGuestsModel", "rests", "(II)Z"⟩, 18) := ⟨⟨by decide +kernel, by decide +kernel⟩, List.mem_of_getElem? (i := 833) (by decide +kernel), List.mem_of_getElem? (i := 1180) (by decide +kernel), List.mem_of_getElem? (i := 1181) (by decide +kernel)⟩
theorem lw_p38 : lw_okq (⟨"SieveGuestsModel", "tellPart", "(JJ)V"⟩, 18) := ⟨⟨by decide +kernel, by decide +kernel⟩, List.mem_of_getElem? (i := 833) (by decide +kernel), List.mem_of_getElem? (i := 1192) (by decide +kernel), List.mem_of_getElem? (i := 1193) (by decide +kernel)⟩
theorem lw_p39 : lw_okq (⟨"SieveGuestsModel", "countOf", "(I)I"⟩, 18) := ⟨⟨by decide +kernel, by decide +kernel⟩, List.mem_of_getElem? (i := 833) (by decide +kernel), List.mem_of_getElem? (i := 1228) (by decide +kernel), List.mem_of_getElem? (i := 1229) (by decide +kernel)⟩
theorem lw_p40 : lw_okq (⟨"SieveGuestsModel", "outOnes", "()I"⟩, 18) := ⟨⟨by decide +kernel, by decide +kernel⟩, List.mem_of_getElem? (i := 833) (by decide +kernel), List.mem_of_getElem? (i := 1232) (by decide +kernel), List.mem_of_getElem? (i := 1233) (by decide +kernel)⟩
theorem lw_p41 : lw_okq (⟨"SieveGuestsModel", "join", "(JII)J"⟩, 18) := ⟨⟨by decide +kernel, by decide +kernel⟩, List.mem_of_getElem? (i := 833) (by decide +kernel), List.mem_of_getElem? (i := 1242) (by decide +kernel), List.mem_of_getElem? (i := 1243) (by decide +kernel)⟩
def lw_privs_3 : List (MethodName × Nat) := [(⟨"SieveGuestsModel", "isSize", "(II)Z"⟩, 18), (⟨"SieveGuestsModel", "mostAt", "(II)I"⟩, 18), (⟨"SieveGuestsModel", "kindsOf", "(I)I"⟩, 18), (⟨"SieveGuestsModel", "mostAlike", "(I)I"⟩, 18), (⟨"SieveGuestsModel", "sievesOf", "(I)I"⟩, 18), (⟨"SieveGuestsModel", "rests", "(II)Z"⟩, 18), (⟨"SieveGuestsModel", "tellPart", "(JJ)V"⟩, 18), (⟨"SieveGuestsModel", "countOf", "(I)I"⟩, 18), (⟨"SieveGuestsModel", "outOnes", "()I"⟩, 18), (⟨"SieveGuestsModel", "join", "(JII)J"⟩, 18)]
theorem lw_r3 : ∀ q ∈ lw_privs_3, lw_okq q := List.forall_mem_cons.mpr ⟨lw_p32, List.forall_mem_cons.mpr ⟨lw_p33, List.forall_mem_cons.mpr ⟨lw_p34, List.forall_mem_cons.mpr ⟨lw_p35, List.forall_mem_cons.mpr ⟨lw_p36, List.forall_mem_cons.mpr ⟨lw_p37, List.forall_mem_cons.mpr ⟨lw_p38, List.forall_mem_cons.mpr ⟨lw_p39, List.forall_mem_cons.mpr ⟨lw_p40, List.forall_mem_cons.mpr ⟨lw_p41, fun _ h => absurd h List.not_mem_nil⟩⟩⟩⟩⟩⟩⟩⟩⟩⟩
def lw_privs : List (MethodName × Nat) := lw_privs_1 ++ (lw_privs_2 ++ (lw_privs_3))
def lw_tbl : List Cond := k2_sels lw_privs ++ tables_1
theorem lw_privs_ok : ∀ q ∈ lw_privs, lw_okq q := by
  show ∀ q ∈ lw_privs_1 ++ (lw_privs_2 ++ (lw_privs_3)), lw_okq q
  exact List.forall_mem_append.mpr ⟨lw_r1, List.forall_mem_append.mpr ⟨lw_r2, lw_r3⟩⟩
def RX0 : String := "SieveGuests$Contest"
def TX0 : u_T := fun k => match k with
  | 0 => ("SieveGuests$Contest", "first", "[I", true)
  | _ => ("SieveGuests$Contest", "second", "[I", true)
def tyX0 : Nat → FieldType := fun k => match k with
  | 0 => .array .int
  | _ => .array .int
theorem nmX0 : ∀ a, a < 2 → ∀ b, b < 2 → a ≠ b → (TX0 a).2.1 ≠ (TX0 b).2.1 := by decide +kernel
theorem tyX0_ok : ∀ k, k < 2 → parseFieldDescriptor (TX0 k).2.2.1 = some (tyX0 k) := by decide +kernel
abbrev cX0_init : ByteArray := prog_2_method_1_code
def yX0_init : MethodName := ⟨RX0, "<init>", "()V"⟩
abbrev cX0_setUp : ByteArray := prog_2_method_2_code
def yX0_setUp : MethodName := ⟨RX0, "setUp", "(LSieveGuests$Uplands;III)V"⟩
abbrev cX0_restingPair : ByteArray := prog_2_method_3_code
def yX0_restingPair : MethodName := ⟨RX0, "restingPair", "(I)I"⟩
abbrev cX0_rests : ByteArray := prog_2_method_4_code
def yX0_rests : MethodName := ⟨RX0, "rests", "(II)Z"⟩
abbrev cX0_gets : ByteArray := prog_2_method_5_code
def yX0_gets : MethodName := ⟨RX0, "gets", "(II)I"⟩
def RX1 : String := "SieveGuests$Guesses"
def TX1 : u_T := fun k => match k with
  | _ => ("SieveGuests$Guesses", "groups", "[I", true)
def tyX1 : Nat → FieldType := fun k => match k with
  | _ => .array .int
theorem nmX1 : ∀ a, a < 1 → ∀ b, b < 1 → a ≠ b → (TX1 a).2.1 ≠ (TX1 b).2.1 := by decide +kernel
theorem tyX1_ok : ∀ k, k < 1 → parseFieldDescriptor (TX1 k).2.2.1 = some (tyX1 k) := by decide +kernel
abbrev cX1_init : ByteArray := prog_3_method_1_code
def yX1_init : MethodName := ⟨RX1, "<init>", "()V"⟩
abbrev cX1_sizeBits : ByteArray := prog_3_method_2_code
def yX1_sizeBits : MethodName := ⟨RX1, "sizeBits", "(LSieveGuests$Uplands;I)I"⟩
abbrev cX1_sizeFits : ByteArray := prog_3_method_3_code
def yX1_sizeFits : MethodName := ⟨RX1, "sizeFits", "(LSieveGuests$Uplands;II)Z"⟩
abbrev cX1_bestHouse : ByteArray := prog_3_method_4_code
def yX1_bestHouse : MethodName := ⟨RX1, "bestHouse", "(LSieveGuests$Uplands;I)I"⟩
abbrev cX1_largestGroup : ByteArray := prog_3_method_5_code
def yX1_largestGroup : MethodName := ⟨RX1, "largestGroup", "(LSieveGuests$Uplands;III)I"⟩
abbrev cX1_guestKindBits : ByteArray := prog_3_method_6_code
def yX1_guestKindBits : MethodName := ⟨RX1, "guestKindBits", "(LSieveGuests$Uplands;I)I"⟩
abbrev cX1_guestKindFits : ByteArray := prog_3_method_7_code
def yX1_guestKindFits : MethodName := ⟨RX1, "guestKindFits", "(LSieveGuests$Uplands;II)Z"⟩
abbrev cX1_bestPart : ByteArray := prog_3_method_8_code
def yX1_bestPart : MethodName := ⟨RX1, "bestPart", "(LSieveGuests$Uplands;I)I"⟩
abbrev cX1_mostAlike : ByteArray := prog_3_method_9_code
def yX1_mostAlike : MethodName := ⟨RX1, "mostAlike", "(III)I"⟩
abbrev cX1_sieveKindBits : ByteArray := prog_3_method_10_code
def yX1_sieveKindBits : MethodName := ⟨RX1, "sieveKindBits", "(LSieveGuests$Uplands;I)I"⟩
abbrev cX1_sieveKindFits : ByteArray := prog_3_method_11_code
def yX1_sieveKindFits : MethodName := ⟨RX1, "sieveKindFits", "(LSieveGuests$Uplands;II)Z"⟩
abbrev cX1_bestQuestion : ByteArray := prog_3_method_12_code
def yX1_bestQuestion : MethodName := ⟨RX1, "bestQuestion", "(LSieveGuests$Uplands;I)I"⟩
abbrev cX1_greaterHalf : ByteArray := prog_3_method_13_code
def yX1_greaterHalf : MethodName := ⟨RX1, "greaterHalf", "(IIII)I"⟩
def RX2 : String := "SieveGuests$Reader"
def TX2 : u_T := fun k => match k with
  | 0 => ("SieveGuests$Reader", "bytes", "[I", true)
  | 1 => ("SieveGuests$Reader", "length", "I", false)
  | 2 => ("SieveGuests$Reader", "next", "I", false)
  | 3 => ("SieveGuests$Reader", "start", "I", false)
  | 4 => ("SieveGuests$Reader", "token", "I", false)
  | 5 => ("SieveGuests$Reader", "value", "I", false)
  | 6 => ("SieveGuests$Reader", "word", "I", false)
  | 7 => ("SieveGuests$Reader", "first", "I", false)
  | _ => ("SieveGuests$Reader", "second", "I", false)
def tyX2 : Nat → FieldType := fun k => match k with
  | 0 => .array .int
  | 1 => .int
  | 2 => .int
  | 3 => .int
  | 4 => .int
  | 5 => .int
  | 6 => .int
  | 7 => .int
  | _ => .int
theorem nmX2 : ∀ a, a < 9 → ∀ b, b < 9 → a ≠ b → (TX2 a).2.1 ≠ (TX2 b).2.1 := by decide +kernel
theorem tyX2_ok : ∀ k, k < 9 → parseFieldDescriptor (TX2 k).2.2.1 = some (tyX2 k) := by decide +kernel
abbrev cX2_init : ByteArray := prog_4_method_1_code
def yX2_init : MethodName := ⟨RX2, "<init>", "()V"⟩
abbrev cX2_addByte : ByteArray := prog_4_method_2_code
def yX2_addByte : MethodName := ⟨RX2, "addByte", "(I)I"⟩
abbrev cX2_readItem : ByteArray := prog_4_method_3_code
def yX2_readItem : MethodName := ⟨RX2, "readItem", "(LSieveGuests$Uplands;Z)Z"⟩
abbrev cX2_hasRoom : ByteArray := prog_4_method_4_code
def yX2_hasRoom : MethodName := ⟨RX2, "hasRoom", "(LSieveGuests$Uplands;)Z"⟩
abbrev cX2_hasTwoNumbers : ByteArray := prog_4_method_5_code
def yX2_hasTwoNumbers : MethodName := ⟨RX2, "hasTwoNumbers", "()Z"⟩
abbrev cX2_readNumber : ByteArray := prog_4_method_6_code
def yX2_readNumber : MethodName := ⟨RX2, "readNumber", "(ILSieveGuests$Uplands;)Z"⟩
abbrev cX2_leastTold : ByteArray := prog_4_method_7_code
def yX2_leastTold : MethodName := ⟨RX2, "leastTold", "(I)I"⟩
abbrev cX2_mostTold : ByteArray := prog_4_method_8_code
def yX2_mostTold : MethodName := ⟨RX2, "mostTold", "(ILSieveGuests$Uplands;)I"⟩
abbrev cX2_carryOut : ByteArray := prog_4_method_9_code
def yX2_carryOut : MethodName := ⟨RX2, "carryOut", "(LSieveGuests$Uplands;)V"⟩
abbrev cX2_step : ByteArray := prog_4_method_10_code
def yX2_step : MethodName := ⟨RX2, "step", "()V"⟩
abbrev cX2_takeWord : ByteArray := prog_4_method_11_code
def yX2_takeWord : MethodName := ⟨RX2, "takeWord", "()V"⟩
abbrev cX2_takeNumber : ByteArray := prog_4_method_12_code
def yX2_takeNumber : MethodName := ⟨RX2, "takeNumber", "()V"⟩
abbrev cX2_isSpelt : ByteArray := prog_4_method_13_code
def yX2_isSpelt : MethodName := ⟨RX2, "isSpelt", "(Ljava/lang/String;)Z"⟩
abbrev cX2_spelling : ByteArray := prog_4_method_14_code
def yX2_spelling : MethodName := ⟨RX2, "spelling", "(I)Ljava/lang/String;"⟩
abbrev cX2_isLetter : ByteArray := prog_4_method_15_code
def yX2_isLetter : MethodName := ⟨RX2, "isLetter", "(I)Z"⟩
abbrev cX2_isFigure : ByteArray := prog_4_method_16_code
def yX2_isFigure : MethodName := ⟨RX2, "isFigure", "(I)Z"⟩
def RX3 : String := "SieveGuests$Rows"
def TX3 : u_T := fun k => match k with
  | 0 => ("SieveGuests$Rows", "most", "I", true)
  | 1 => ("SieveGuests$Rows", "width", "I", true)
  | 2 => ("SieveGuests$Rows", "cells", "[I", true)
  | _ => ("SieveGuests$Rows", "used", "I", false)
def tyX3 : Nat → FieldType := fun k => match k with
  | 0 => .int
  | 1 => .int
  | 2 => .array .int
  | _ => .int
theorem nmX3 : ∀ a, a < 4 → ∀ b, b < 4 → a ≠ b → (TX3 a).2.1 ≠ (TX3 b).2.1 := by decide +kernel
theorem tyX3_ok : ∀ k, k < 4 → parseFieldDescriptor (TX3 k).2.2.1 = some (tyX3 k) := by decide +kernel
abbrev cX3_init : ByteArray := prog_5_method_1_code
def yX3_init : MethodName := ⟨RX3, "<init>", "(II)V"⟩
abbrev cX3_isFull : ByteArray := prog_5_method_2_code
def yX3_isFull : MethodName := ⟨RX3, "isFull", "()Z"⟩
abbrev cX3_open : ByteArray := prog_5_method_3_code
def yX3_open : MethodName := ⟨RX3, "open", "()V"⟩
abbrev cX3_set : ByteArray := prog_5_method_4_code
def yX3_set : MethodName := ⟨RX3, "set", "(II)V"⟩
abbrev cX3_fill : ByteArray := prog_5_method_5_code
def yX3_fill : MethodName := ⟨RX3, "fill", "(IIII)V"⟩
abbrev cX3_cell : ByteArray := prog_5_method_6_code
def yX3_cell : MethodName := ⟨RX3, "cell", "(II)I"⟩
abbrev cX3_last : ByteArray := prog_5_method_7_code
def yX3_last : MethodName := ⟨RX3, "last", "(I)I"⟩
abbrev cX3_closeLast : ByteArray := prog_5_method_8_code
def yX3_closeLast : MethodName := ⟨RX3, "closeLast", "()V"⟩
abbrev cX3_drop : ByteArray := prog_5_method_9_code
def yX3_drop : MethodName := ⟨RX3, "drop", "()I"⟩
abbrev cX3_takeFrom : ByteArray := prog_5_method_10_code
def yX3_takeFrom : MethodName := ⟨RX3, "takeFrom", "(LSieveGuests$Rows;)V"⟩
abbrev cX3_mixInto : ByteArray := prog_5_method_11_code
def yX3_mixInto : MethodName := ⟨RX3, "mixInto", "(J)J"⟩
def RX4 : String := "SieveGuests$Seating"
def TX4 : u_T := fun k => match k with
  | 0 => ("SieveGuests$Seating", "parts", "[I", true)
  | 1 => ("SieveGuests$Seating", "sitting", "[I", true)
  | 2 => ("SieveGuests$Seating", "way", "[I", true)
  | 3 => ("SieveGuests$Seating", "best", "[I", true)
  | 4 => ("SieveGuests$Seating", "guests", "I", false)
  | 5 => ("SieveGuests$Seating", "houses", "I", false)
  | _ => ("SieveGuests$Seating", "most", "I", false)
def tyX4 : Nat → FieldType := fun k => match k with
  | 0 => .array .int
  | 1 => .array .int
  | 2 => .array .int
  | 3 => .array .int
  | 4 => .int
  | 5 => .int
  | _ => .int
theorem nmX4 : ∀ a, a < 7 → ∀ b, b < 7 → a ≠ b → (TX4 a).2.1 ≠ (TX4 b).2.1 := by decide +kernel
theorem tyX4_ok : ∀ k, k < 7 → parseFieldDescriptor (TX4 k).2.2.1 = some (tyX4 k) := by decide +kernel
abbrev cX4_init : ByteArray := prog_6_method_1_code
def yX4_init : MethodName := ⟨RX4, "<init>", "()V"⟩
abbrev cX4_findBest : ByteArray := prog_6_method_2_code
def yX4_findBest : MethodName := ⟨RX4, "findBest", "(LSieveGuests$Uplands;)V"⟩
abbrev cX4_settle : ByteArray := prog_6_method_3_code
def yX4_settle : MethodName := ⟨RX4, "settle", "(LSieveGuests$Seating;II)V"⟩
abbrev cX4_keepIfMore : ByteArray := prog_6_method_4_code
def yX4_keepIfMore : MethodName := ⟨RX4, "keepIfMore", "(I)V"⟩
def RX5 : String := "SieveGuests$Sieving"
def TX5 : u_T := fun k => match k with
  | _ => ("", "", "", false)
def tyX5 : Nat → FieldType := fun k => match k with
  | _ => .int
theorem nmX5 : ∀ a, a < 0 → ∀ b, b < 0 → a ≠ b → (TX5 a).2.1 ≠ (TX5 b).2.1 := by decide +kernel
theorem tyX5_ok : ∀ k, k < 0 → parseFieldDescriptor (TX5 k).2.2.1 = some (tyX5 k) := by decide +kernel
abbrev cX5_partSize : ByteArray := prog_7_method_2_code
def yX5_partSize : MethodName := ⟨RX5, "partSize", "(III)I"⟩
abbrev cX5_least : ByteArray := prog_7_method_3_code
def yX5_least : MethodName := ⟨RX5, "least", "(III)I"⟩
abbrev cX5_partsFrom : ByteArray := prog_7_method_4_code
def yX5_partsFrom : MethodName := ⟨RX5, "partsFrom", "(III)I"⟩
def RX6 : String := "SieveGuests$Uplands"
def TX6 : u_T := fun k => match k with
  | 0 => ("SieveGuests$Uplands", "guestKinds", "[I", true)
  | 1 => ("SieveGuests$Uplands", "guestSizes", "[I", true)
  | 2 => ("SieveGuests$Uplands", "places", "[I", true)
  | 3 => ("SieveGuests$Uplands", "houseKinds", "[I", true)
  | 4 => ("SieveGuests$Uplands", "meshes", "[I", true)
  | 5 => ("SieveGuests$Uplands", "likings", "[I", true)
  | 6 => ("SieveGuests$Uplands", "seenRows", "LSieveGuests$Rows;", true)
  | 7 => ("SieveGuests$Uplands", "noteRows", "LSieveGuests$Rows;", true)
  | 8 => ("SieveGuests$Uplands", "markRows", "LSieveGuests$Rows;", true)
  | 9 => ("SieveGuests$Uplands", "steps", "LSieveGuests$Rows;", true)
  | 10 => ("SieveGuests$Uplands", "guests", "I", false)
  | 11 => ("SieveGuests$Uplands", "houses", "I", false)
  | 12 => ("SieveGuests$Uplands", "wet", "I", false)
  | _ => ("SieveGuests$Uplands", "evening", "I", false)
def tyX6 : Nat → FieldType := fun k => match k with
  | 0 => .array .int
  | 1 => .array .int
  | 2 => .array .int
  | 3 => .array .int
  | 4 => .array .int
  | 5 => .array .int
  | 6 => .object "SieveGuests$Rows"
  | 7 => .object "SieveGuests$Rows"
  | 8 => .object "SieveGuests$Rows"
  | 9 => .object "SieveGuests$Rows"
  | 10 => .int
  | 11 => .int
  | 12 => .int
  | _ => .int
theorem nmX6 : ∀ a, a < 14 → ∀ b, b < 14 → a ≠ b → (TX6 a).2.1 ≠ (TX6 b).2.1 := by decide +kernel
theorem tyX6_ok : ∀ k, k < 14 → parseFieldDescriptor (TX6 k).2.2.1 = some (tyX6 k) := by decide +kernel
abbrev cX6_init : ByteArray := prog_8_method_1_code
def yX6_init : MethodName := ⟨RX6, "<init>", "()V"⟩
abbrev cX6_startAnew : ByteArray := prog_8_method_2_code
def yX6_startAnew : MethodName := ⟨RX6, "startAnew", "(I)V"⟩
abbrev cX6_takeFrom : ByteArray := prog_8_method_3_code
def yX6_takeFrom : MethodName := ⟨RX6, "takeFrom", "(LSieveGuests$Uplands;)V"⟩
abbrev cX6_hasGuest : ByteArray := prog_8_method_4_code
def yX6_hasGuest : MethodName := ⟨RX6, "hasGuest", "(I)Z"⟩
abbrev cX6_hasHouse : ByteArray := prog_8_method_5_code
def yX6_hasHouse : MethodName := ⟨RX6, "hasHouse", "(I)Z"⟩
abbrev cX6_addGuest : ByteArray := prog_8_method_6_code
def yX6_addGuest : MethodName := ⟨RX6, "addGuest", "(II)I"⟩
abbrev cX6_addHouse : ByteArray := prog_8_method_7_code
def yX6_addHouse : MethodName := ⟨RX6, "addHouse", "(II)I"⟩
abbrev cX6_awayFromHome : ByteArray := prog_8_method_8_code
def yX6_awayFromHome : MethodName := ⟨RX6, "awayFromHome", "()I"⟩
abbrev cX6_allLiking : ByteArray := prog_8_method_9_code
def yX6_allLiking : MethodName := ⟨RX6, "allLiking", "()I"⟩
abbrev cX6_leastAt : ByteArray := prog_8_method_10_code
def yX6_leastAt : MethodName := ⟨RX6, "leastAt", "(I)I"⟩
abbrev cX6_stayBits : ByteArray := prog_8_method_11_code
def yX6_stayBits : MethodName := ⟨RX6, "stayBits", "(II)I"⟩
abbrev cX6_stayCount : ByteArray := prog_8_method_12_code
def yX6_stayCount : MethodName := ⟨RX6, "stayCount", "(II)I"⟩
abbrev cX6_stayCountByMesh : ByteArray := prog_8_method_13_code
def yX6_stayCountByMesh : MethodName := ⟨RX6, "stayCountByMesh", "(III)I"⟩
abbrev cX6_stayCountByWet : ByteArray := prog_8_method_14_code
def yX6_stayCountByWet : MethodName := ⟨RX6, "stayCountByWet", "(III)I"⟩
abbrev cX6_stayCountBySize : ByteArray := prog_8_method_15_code
def yX6_stayCountBySize : MethodName := ⟨RX6, "stayCountBySize", "(IIII)I"⟩
abbrev cX6_stayRound : ByteArray := prog_8_method_16_code
def yX6_stayRound : MethodName := ⟨RX6, "stayRound", "(II)I"⟩
abbrev cX6_company : ByteArray := prog_8_method_17_code
def yX6_company : MethodName := ⟨RX6, "company", "(I)I"⟩
abbrev cX6_pairs : ByteArray := prog_8_method_18_code
def yX6_pairs : MethodName := ⟨RX6, "pairs", "(I)I"⟩
abbrev cX6_likingAfter : ByteArray := prog_8_method_19_code
def yX6_likingAfter : MethodName := ⟨RX6, "likingAfter", "(II)I"⟩
abbrev cX6_passEvenings : ByteArray := prog_8_method_20_code
def yX6_passEvenings : MethodName := ⟨RX6, "passEvenings", "(I)V"⟩
abbrev cX6_keepStep : ByteArray := prog_8_method_21_code
def yX6_keepStep : MethodName := ⟨RX6, "keepStep", "()V"⟩
abbrev cX6_stepBack : ByteArray := prog_8_method_22_code
def yX6_stepBack : MethodName := ⟨RX6, "stepBack", "()V"⟩
def RX7 : String := "SieveGuests"
def TX7 : u_T := fun k => match k with
  | 0 => ("SieveGuests", "land", "LSieveGuests$Uplands;", true)
  | 1 => ("SieveGuests", "spare", "LSieveGuests$Uplands;", true)
  | 2 => ("SieveGuests", "images", "[LSieveGuests$Uplands;", true)
  | 3 => ("SieveGuests", "reader", "LSieveGuests$Reader;", true)
  | 4 => ("SieveGuests", "guesses", "LSieveGuests$Guesses;", true)
  | 5 => ("SieveGuests", "seating", "LSieveGuests$Seating;", true)
  | 6 => ("SieveGuests", "contest", "LSieveGuests$Contest;", true)
  | 7 => ("SieveGuests", "refused", "[I", true)
  | 8 => ("SieveGuests", "above", "I", false)
  | _ => ("SieveGuests", "below", "I", false)
def tyX7 : Nat → FieldType := fun k => match k with
  | 0 => .object "SieveGuests$Uplands"
  | 1 => .object "SieveGuests$Uplands"
  | 2 => .array (.object "SieveGuests$Uplands")
  | 3 => .object "SieveGuests$Reader"
  | 4 => .object "SieveGuests$Guesses"
  | 5 => .object "SieveGuests$Seating"
  | 6 => .object "SieveGuests$Contest"
  | 7 => .array .int
  | 8 => .int
  | _ => .int
theorem nmX7 : ∀ a, a < 10 → ∀ b, b < 10 → a ≠ b → (TX7 a).2.1 ≠ (TX7 b).2.1 := by decide +kernel
theorem tyX7_ok : ∀ k, k < 10 → parseFieldDescriptor (TX7 k).2.2.1 = some (tyX7 k) := by decide +kernel
abbrev cX7_init : ByteArray := prog_1_method_1_code
def yX7_init : MethodName := ⟨RX7, "<init>", "()V"⟩
abbrev cX7_uplands : ByteArray := prog_1_method_2_code
def yX7_uplands : MethodName := ⟨RX7, "uplands", "(I)I"⟩
abbrev cX7_guest : ByteArray := prog_1_method_3_code
def yX7_guest : MethodName := ⟨RX7, "guest", "(II)I"⟩
abbrev cX7_house : ByteArray := prog_1_method_4_code
def yX7_house : MethodName := ⟨RX7, "house", "(II)I"⟩
abbrev cX7_type : ByteArray := prog_1_method_5_code
def yX7_type : MethodName := ⟨RX7, "type", "(I)I"⟩
abbrev cX7_clear : ByteArray := prog_1_method_6_code
def yX7_clear : MethodName := ⟨RX7, "clear", "()I"⟩
abbrev cX7_read : ByteArray := prog_1_method_7_code
def yX7_read : MethodName := ⟨RX7, "read", "()I"⟩
abbrev cX7_calls : ByteArray := prog_1_method_8_code
def yX7_calls : MethodName := ⟨RX7, "calls", "(II)I"⟩
abbrev cX7_leaves : ByteArray := prog_1_method_9_code
def yX7_leaves : MethodName := ⟨RX7, "leaves", "(I)I"⟩
abbrev cX7_wets : ByteArray := prog_1_method_10_code
def yX7_wets : MethodName := ⟨RX7, "wets", "(I)I"⟩
abbrev cX7_evenings : ByteArray := prog_1_method_11_code
def yX7_evenings : MethodName := ⟨RX7, "evenings", "(I)I"⟩
abbrev cX7_undo : ByteArray := prog_1_method_12_code
def yX7_undo : MethodName := ⟨RX7, "undo", "()I"⟩
abbrev cX7_of : ByteArray := prog_1_method_13_code
def yX7_of : MethodName := ⟨RX7, "of", "(II)I"⟩
abbrev cX7_about : ByteArray := prog_1_method_14_code
def yX7_about : MethodName := ⟨RX7, "about", "(II)I"⟩
abbrev cX7_great : ByteArray := prog_1_method_15_code
def yX7_great : MethodName := ⟨RX7, "great", "(II)I"⟩
abbrev cX7_stays : ByteArray := prog_1_method_16_code
def yX7_stays : MethodName := ⟨RX7, "stays", "(II)I"⟩
abbrev cX7_then : ByteArray := prog_1_method_17_code
def yX7_then : MethodName := ⟨RX7, "then", "(II)I"⟩
abbrev cX7_when : ByteArray := prog_1_method_18_code
def yX7_when : MethodName := ⟨RX7, "when", "(II)I"⟩
abbrev cX7_most : ByteArray := prog_1_method_19_code
def yX7_most : MethodName := ⟨RX7, "most", "(II)I"⟩
abbrev cX7_round : ByteArray := prog_1_method_20_code
def yX7_round : MethodName := ⟨RX7, "round", "(I)I"⟩
abbrev cX7_mesh : ByteArray := prog_1_method_21_code
def yX7_mesh : MethodName := ⟨RX7, "mesh", "(III)I"⟩
abbrev cX7_place : ByteArray := prog_1_method_22_code
def yX7_place : MethodName := ⟨RX7, "place", "(I)I"⟩
abbrev cX7_seen : ByteArray := prog_1_method_23_code
def yX7_seen : MethodName := ⟨RX7, "seen", "(IIII)I"⟩
abbrev cX7_sizes : ByteArray := prog_1_method_24_code
def yX7_sizes : MethodName := ⟨RX7, "sizes", "(II)I"⟩
abbrev cX7_tell : ByteArray := prog_1_method_25_code
def yX7_tell : MethodName := ⟨RX7, "tell", "(I)I"⟩
abbrev cX7_note : ByteArray := prog_1_method_26_code
def yX7_note : MethodName := ⟨RX7, "note", "(IIII)I"⟩
abbrev cX7_mark : ByteArray := prog_1_method_27_code
def yX7_mark : MethodName := ⟨RX7, "mark", "(IIIII)I"⟩
abbrev cX7_forget : ByteArray := prog_1_method_28_code
def yX7_forget : MethodName := ⟨RX7, "forget", "(I)I"⟩
abbrev cX7_is : ByteArray := prog_1_method_29_code
def yX7_is : MethodName := ⟨RX7, "is", "(I)I"⟩
abbrev cX7_look : ByteArray := prog_1_method_30_code
def yX7_look : MethodName := ⟨RX7, "look", "(I)I"⟩
abbrev cX7_kinds : ByteArray := prog_1_method_31_code
def yX7_kinds : MethodName := ⟨RX7, "kinds", "(I)I"⟩
abbrev cX7_ask : ByteArray := prog_1_method_32_code
def yX7_ask : MethodName := ⟨RX7, "ask", "(I)I"⟩
abbrev cX7_rivals : ByteArray := prog_1_method_33_code
def yX7_rivals : MethodName := ⟨RX7, "rivals", "(IIII)I"⟩
abbrev cX7_rain : ByteArray := prog_1_method_34_code
def yX7_rain : MethodName := ⟨RX7, "rain", "(II)I"⟩
abbrev cX7_years : ByteArray := prog_1_method_35_code
def yX7_years : MethodName := ⟨RX7, "years", "(II)I"⟩
abbrev cX7_part : ByteArray := prog_1_method_36_code
def yX7_part : MethodName := ⟨RX7, "part", "(I)J"⟩
abbrev cX7_image : ByteArray := prog_1_method_37_code
def yX7_image : MethodName := ⟨RX7, "image", "(I)I"⟩
abbrev cX7_from : ByteArray := prog_1_method_38_code
def yX7_from : MethodName := ⟨RX7, "from", "(I)I"⟩
abbrev cX7_status : ByteArray := prog_1_method_39_code
def yX7_status : MethodName := ⟨RX7, "status", "(I)I"⟩
abbrev cX7_count : ByteArray := prog_1_method_40_code
def yX7_count : MethodName := ⟨RX7, "count", "(I)I"⟩
abbrev cX7_digest : ByteArray := prog_1_method_41_code
def yX7_digest : MethodName := ⟨RX7, "digest", "()J"⟩
abbrev cX7_countOf : ByteArray := prog_1_method_42_code
def yX7_countOf : MethodName := ⟨RX7, "countOf", "(I)I"⟩
abbrev cX7_refuse : ByteArray := prog_1_method_43_code
def yX7_refuse : MethodName := ⟨RX7, "refuse", "(I)I"⟩
abbrev cX7_keepFraction : ByteArray := prog_1_method_44_code
def yX7_keepFraction : MethodName := ⟨RX7, "keepFraction", "(I)V"⟩
abbrev cX7_within : ByteArray := prog_1_method_45_code
def yX7_within : MethodName := ⟨RX7, "within", "(III)Z"⟩
abbrev cX7_hasBit : ByteArray := prog_1_method_46_code
def yX7_hasBit : MethodName := ⟨RX7, "hasBit", "(II)Z"⟩
abbrev cX7_lowestBit : ByteArray := prog_1_method_47_code
def yX7_lowestBit : MethodName := ⟨RX7, "lowestBit", "(I)I"⟩
abbrev cX7_highestBit : ByteArray := prog_1_method_48_code
def yX7_highestBit : MethodName := ⟨RX7, "highestBit", "(I)I"⟩
abbrev cX7_get : ByteArray := prog_1_method_49_code
def yX7_get : MethodName := ⟨RX7, "get", "([II)I"⟩
abbrev cX7_put : ByteArray := prog_1_method_50_code
def yX7_put : MethodName := ⟨RX7, "put", "([III)V"⟩
abbrev cX7_copyRow : ByteArray := prog_1_method_51_code
def yX7_copyRow : MethodName := ⟨RX7, "copyRow", "([I[I)V"⟩
def RX8 : String := "SieveGuestsModel"
def TX8 : u_T := fun k => match k with
  | 0 => ("SieveGuestsModel", "row", "[I", true)
  | 1 => ("SieveGuestsModel", "isKept", "[Z", true)
  | 2 => ("SieveGuestsModel", "refused", "[I", true)
  | 3 => ("SieveGuestsModel", "above", "J", false)
  | 4 => ("SieveGuestsModel", "below", "J", false)
  | 5 => ("SieveGuestsModel", "text", "[I", true)
  | 6 => ("SieveGuestsModel", "length", "I", false)
  | 7 => ("SieveGuestsModel", "words", "[I", true)
  | 8 => ("SieveGuestsModel", "at", "I", false)
  | 9 => ("SieveGuestsModel", "behind", "I", false)
  | 10 => ("SieveGuestsModel", "readGuests", "I", false)
  | 11 => ("SieveGuestsModel", "readHouses", "I", false)
  | 12 => ("SieveGuestsModel", "doing", "Z", false)
  | 13 => ("SieveGuestsModel", "line", "[I", true)
  | 14 => ("SieveGuestsModel", "bestLine", "[I", true)
  | 15 => ("SieveGuestsModel", "comes", "[I", true)
  | 16 => ("SieveGuestsModel", "here", "[I", true)
  | _ => ("SieveGuestsModel", "there", "[I", true)
def tyX8 : Nat → FieldType := fun k => match k with
  | 0 => .array .int
  | 1 => .array .boolean
  | 2 => .array .int
  | 3 => .long
  | 4 => .long
  | 5 => .array .int
  | 6 => .int
  | 7 => .array .int
  | 8 => .int
  | 9 => .int
  | 10 => .int
  | 11 => .int
  | 12 => .boolean
  | 13 => .array .int
  | 14 => .array .int
  | 15 => .array .int
  | 16 => .array .int
  | _ => .array .int
theorem nmX8 : ∀ a, a < 18 → ∀ b, b < 18 → a ≠ b → (TX8 a).2.1 ≠ (TX8 b).2.1 := by decide +kernel
theorem tyX8_ok : ∀ k, k < 18 → parseFieldDescriptor (TX8 k).2.2.1 = some (tyX8 k) := by decide +kernel
abbrev cX8_init : ByteArray := prog_10_method_1_code
def yX8_init : MethodName := ⟨RX8, "<init>", "()V"⟩
abbrev cX8_in : ByteArray := prog_10_method_2_code
def yX8_in : MethodName := ⟨RX8, "in", "(III)Z"⟩
abbrev cX8_has : ByteArray := prog_10_method_3_code
def yX8_has : MethodName := ⟨RX8, "has", "(II)Z"⟩
abbrev cX8_bits : ByteArray := prog_10_method_4_code
def yX8_bits : MethodName := ⟨RX8, "bits", "(I)I"⟩
abbrev cX8_refuse : ByteArray := prog_10_method_5_code
def yX8_refuse : MethodName := ⟨RX8, "refuse", "(I)I"⟩
abbrev cX8_badAs : ByteArray := prog_10_method_6_code
def yX8_badAs : MethodName := ⟨RX8, "badAs", "(I)I"⟩
abbrev cX8_layUplands : ByteArray := prog_10_method_7_code
def yX8_layUplands : MethodName := ⟨RX8, "layUplands", "(I)V"⟩
abbrev cX8_uplands : ByteArray := prog_10_method_8_code
def yX8_uplands : MethodName := ⟨RX8, "uplands", "(I)I"⟩
abbrev cX8_addGuest : ByteArray := prog_10_method_9_code
def yX8_addGuest : MethodName := ⟨RX8, "addGuest", "(II)V"⟩
abbrev cX8_guest : ByteArray := prog_10_method_10_code
def yX8_guest : MethodName := ⟨RX8, "guest", "(II)I"⟩
abbrev cX8_addHouse : ByteArray := prog_10_method_11_code
def yX8_addHouse : MethodName := ⟨RX8, "addHouse", "(II)V"⟩
abbrev cX8_house : ByteArray := prog_10_method_12_code
def yX8_house : MethodName := ⟨RX8, "house", "(II)I"⟩
abbrev cX8_type : ByteArray := prog_10_method_13_code
def yX8_type : MethodName := ⟨RX8, "type", "(I)I"⟩
abbrev cX8_clear : ByteArray := prog_10_method_14_code
def yX8_clear : MethodName := ⟨RX8, "clear", "()I"⟩
abbrev cX8_isLetter : ByteArray := prog_10_method_15_code
def yX8_isLetter : MethodName := ⟨RX8, "isLetter", "(I)Z"⟩
abbrev cX8_isFigure : ByteArray := prog_10_method_16_code
def yX8_isFigure : MethodName := ⟨RX8, "isFigure", "(I)Z"⟩
abbrev cX8_next : ByteArray := prog_10_method_17_code
def yX8_next : MethodName := ⟨RX8, "next", "()V"⟩
abbrev cX8_isWord : ByteArray := prog_10_method_18_code
def yX8_isWord : MethodName := ⟨RX8, "isWord", "(I)Z"⟩
abbrev cX8_wordHere : ByteArray := prog_10_method_19_code
def yX8_wordHere : MethodName := ⟨RX8, "wordHere", "()I"⟩
abbrev cX8_number : ByteArray := prog_10_method_20_code
def yX8_number : MethodName := ⟨RX8, "number", "(II)I"⟩
abbrev cX8_readsUplands : ByteArray := prog_10_method_21_code
def yX8_readsUplands : MethodName := ⟨RX8, "readsUplands", "()Z"⟩
abbrev cX8_readsGuest : ByteArray := prog_10_method_22_code
def yX8_readsGuest : MethodName := ⟨RX8, "readsGuest", "()Z"⟩
abbrev cX8_readsHouse : ByteArray := prog_10_method_23_code
def yX8_readsHouse : MethodName := ⟨RX8, "readsHouse", "()Z"⟩
abbrev cX8_readsGoing : ByteArray := prog_10_method_24_code
def yX8_readsGoing : MethodName := ⟨RX8, "readsGoing", "(Z)Z"⟩
abbrev cX8_readsItem : ByteArray := prog_10_method_25_code
def yX8_readsItem : MethodName := ⟨RX8, "readsItem", "(I)Z"⟩
abbrev cX8_readItems : ByteArray := prog_10_method_26_code
def yX8_readItems : MethodName := ⟨RX8, "readItems", "(Z)I"⟩
abbrev cX8_read : ByteArray := prog_10_method_27_code
def yX8_read : MethodName := ⟨RX8, "read", "()I"⟩
abbrev cX8_greatBy : ByteArray := prog_10_method_28_code
def yX8_greatBy : MethodName := ⟨RX8, "greatBy", "(III)I"⟩
abbrev cX8_atLeastOne : ByteArray := prog_10_method_29_code
def yX8_atLeastOne : MethodName := ⟨RX8, "atLeastOne", "(I)I"⟩
abbrev cX8_needBy : ByteArray := prog_10_method_30_code
def yX8_needBy : MethodName := ⟨RX8, "needBy", "(III)I"⟩
abbrev cX8_staysBy : ByteArray := prog_10_method_31_code
def yX8_staysBy : MethodName := ⟨RX8, "staysBy", "(III)I"⟩
abbrev cX8_needOf : ByteArray := prog_10_method_32_code
def yX8_needOf : MethodName := ⟨RX8, "needOf", "(II)I"⟩
abbrev cX8_staysOf : ByteArray := prog_10_method_33_code
def yX8_staysOf : MethodName := ⟨RX8, "staysOf", "(III)I"⟩
abbrev cX8_companyIn : ByteArray := prog_10_method_34_code
def yX8_companyIn : MethodName := ⟨RX8, "companyIn", "(III)I"⟩
abbrev cX8_passes : ByteArray := prog_10_method_35_code
def yX8_passes : MethodName := ⟨RX8, "passes", "(I)V"⟩
abbrev cX8_goBy : ByteArray := prog_10_method_36_code
def yX8_goBy : MethodName := ⟨RX8, "goBy", "(I)V"⟩
abbrev cX8_allLiking : ByteArray := prog_10_method_37_code
def yX8_allLiking : MethodName := ⟨RX8, "allLiking", "(I)I"⟩
abbrev cX8_keepPast : ByteArray := prog_10_method_38_code
def yX8_keepPast : MethodName := ⟨RX8, "keepPast", "()V"⟩
abbrev cX8_isGuest : ByteArray := prog_10_method_39_code
def yX8_isGuest : MethodName := ⟨RX8, "isGuest", "(I)Z"⟩
abbrev cX8_isHouse : ByteArray := prog_10_method_40_code
def yX8_isHouse : MethodName := ⟨RX8, "isHouse", "(I)Z"⟩
abbrev cX8_calls : ByteArray := prog_10_method_41_code
def yX8_calls : MethodName := ⟨RX8, "calls", "(II)I"⟩
abbrev cX8_leaves : ByteArray := prog_10_method_42_code
def yX8_leaves : MethodName := ⟨RX8, "leaves", "(I)I"⟩
abbrev cX8_wets : ByteArray := prog_10_method_43_code
def yX8_wets : MethodName := ⟨RX8, "wets", "(I)I"⟩
abbrev cX8_evenings : ByteArray := prog_10_method_44_code
def yX8_evenings : MethodName := ⟨RX8, "evenings", "(I)I"⟩
abbrev cX8_undo : ByteArray := prog_10_method_45_code
def yX8_undo : MethodName := ⟨RX8, "undo", "()I"⟩
abbrev cX8_of : ByteArray := prog_10_method_46_code
def yX8_of : MethodName := ⟨RX8, "of", "(II)I"⟩
abbrev cX8_about : ByteArray := prog_10_method_47_code
def yX8_about : MethodName := ⟨RX8, "about", "(II)I"⟩
abbrev cX8_great : ByteArray := prog_10_method_48_code
def yX8_great : MethodName := ⟨RX8, "great", "(II)I"⟩
abbrev cX8_stays : ByteArray := prog_10_method_49_code
def yX8_stays : MethodName := ⟨RX8, "stays", "(II)I"⟩
abbrev cX8_layTried : ByteArray := prog_10_method_50_code
def yX8_layTried : MethodName := ⟨RX8, "layTried", "()V"⟩
abbrev cX8_then : ByteArray := prog_10_method_51_code
def yX8_then : MethodName := ⟨RX8, "then", "(II)I"⟩
abbrev cX8_when : ByteArray := prog_10_method_52_code
def yX8_when : MethodName := ⟨RX8, "when", "(II)I"⟩
abbrev cX8_most : ByteArray := prog_10_method_53_code
def yX8_most : MethodName := ⟨RX8, "most", "(II)I"⟩
abbrev cX8_round : ByteArray := prog_10_method_54_code
def yX8_round : MethodName := ⟨RX8, "round", "(I)I"⟩
abbrev cX8_mesh : ByteArray := prog_10_method_55_code
def yX8_mesh : MethodName := ⟨RX8, "mesh", "(III)I"⟩
abbrev cX8_gainBy : ByteArray := prog_10_method_56_code
def yX8_gainBy : MethodName := ⟨RX8, "gainBy", "()I"⟩
abbrev cX8_nextLine : ByteArray := prog_10_method_57_code
def yX8_nextLine : MethodName := ⟨RX8, "nextLine", "()Z"⟩
abbrev cX8_place : ByteArray := prog_10_method_58_code
def yX8_place : MethodName := ⟨RX8, "place", "(I)I"⟩
abbrev cX8_seen : ByteArray := prog_10_method_59_code
def yX8_seen : MethodName := ⟨RX8, "seen", "(IIII)I"⟩
abbrev cX8_isSize : ByteArray := prog_10_method_60_code
def yX8_isSize : MethodName := ⟨RX8, "isSize", "(II)Z"⟩
abbrev cX8_sizes : ByteArray := prog_10_method_61_code
def yX8_sizes : MethodName := ⟨RX8, "sizes", "(II)I"⟩
abbrev cX8_mostAt : ByteArray := prog_10_method_62_code
def yX8_mostAt : MethodName := ⟨RX8, "mostAt", "(II)I"⟩
abbrev cX8_tell : ByteArray := prog_10_method_63_code
def yX8_tell : MethodName := ⟨RX8, "tell", "(I)I"⟩
abbrev cX8_note : ByteArray := prog_10_method_64_code
def yX8_note : MethodName := ⟨RX8, "note", "(IIII)I"⟩
abbrev cX8_mark : ByteArray := prog_10_method_65_code
def yX8_mark : MethodName := ⟨RX8, "mark", "(IIIII)I"⟩
abbrev cX8_forget : ByteArray := prog_10_method_66_code
def yX8_forget : MethodName := ⟨RX8, "forget", "(I)I"⟩
abbrev cX8_kindsOf : ByteArray := prog_10_method_67_code
def yX8_kindsOf : MethodName := ⟨RX8, "kindsOf", "(I)I"⟩
abbrev cX8_is : ByteArray := prog_10_method_68_code
def yX8_is : MethodName := ⟨RX8, "is", "(I)I"⟩
abbrev cX8_mostAlike : ByteArray := prog_10_method_69_code
def yX8_mostAlike : MethodName := ⟨RX8, "mostAlike", "(I)I"⟩
abbrev cX8_look : ByteArray := prog_10_method_70_code
def yX8_look : MethodName := ⟨RX8, "look", "(I)I"⟩
abbrev cX8_sievesOf : ByteArray := prog_10_method_71_code
def yX8_sievesOf : MethodName := ⟨RX8, "sievesOf", "(I)I"⟩
abbrev cX8_kinds : ByteArray := prog_10_method_72_code
def yX8_kinds : MethodName := ⟨RX8, "kinds", "(I)I"⟩
abbrev cX8_ask : ByteArray := prog_10_method_73_code
def yX8_ask : MethodName := ⟨RX8, "ask", "(I)I"⟩
abbrev cX8_gets : ByteArray := prog_10_method_74_code
def yX8_gets : MethodName := ⟨RX8, "gets", "(II)I"⟩
abbrev cX8_rests : ByteArray := prog_10_method_75_code
def yX8_rests : MethodName := ⟨RX8, "rests", "(II)Z"⟩
abbrev cX8_rivals : ByteArray := prog_10_method_76_code
def yX8_rivals : MethodName := ⟨RX8, "rivals", "(IIII)I"⟩
abbrev cX8_tellPart : ByteArray := prog_10_method_77_code
def yX8_tellPart : MethodName := ⟨RX8, "tellPart", "(JJ)V"⟩
abbrev cX8_rain : ByteArray := prog_10_method_78_code
def yX8_rain : MethodName := ⟨RX8, "rain", "(II)I"⟩
abbrev cX8_years : ByteArray := prog_10_method_79_code
def yX8_years : MethodName := ⟨RX8, "years", "(II)I"⟩
abbrev cX8_part : ByteArray := prog_10_method_80_code
def yX8_part : MethodName := ⟨RX8, "part", "(I)J"⟩
abbrev cX8_image : ByteArray := prog_10_method_81_code
def yX8_image : MethodName := ⟨RX8, "image", "(I)I"⟩
abbrev cX8_from : ByteArray := prog_10_method_82_code
def yX8_from : MethodName := ⟨RX8, "from", "(I)I"⟩
abbrev cX8_status : ByteArray := prog_10_method_83_code
def yX8_status : MethodName := ⟨RX8, "status", "(I)I"⟩
abbrev cX8_outOnes : ByteArray := prog_10_method_84_code
def yX8_outOnes : MethodName := ⟨RX8, "outOnes", "()I"⟩
abbrev cX8_countOf : ByteArray := prog_10_method_85_code
def yX8_countOf : MethodName := ⟨RX8, "countOf", "(I)I"⟩
abbrev cX8_count : ByteArray := prog_10_method_86_code
def yX8_count : MethodName := ⟨RX8, "count", "(I)I"⟩
abbrev cX8_join : ByteArray := prog_10_method_87_code
def yX8_join : MethodName := ⟨RX8, "join", "(JII)J"⟩
abbrev cX8_digest : ByteArray := prog_10_method_88_code
def yX8_digest : MethodName := ⟨RX8, "digest", "()J"⟩
def RJ6 : String := "java/lang/Integer"
abbrev cJ6_bitCount_0f7a4 : ByteArray := prog_11_method_49_code
def yJ6_bitCount_0f7a4 : MethodName := ⟨RJ6, "bitCount", "(I)I"⟩
def RJ9 : String := "java/lang/Math"
abbrev cJ9_max_7cf53 : ByteArray := prog_12_method_65_code
def yJ9_max_7cf53 : MethodName := ⟨RJ9, "max", "(II)I"⟩
abbrev cJ9_min_7cf53 : ByteArray := prog_12_method_69_code
def yJ9_min_7cf53 : MethodName := ⟨RJ9, "min", "(II)I"⟩
def RJ0 : String := "java/lang/String"
abbrev cJ0_length_8abf5 : ByteArray := prog_13_method_54_code
def yJ0_length_8abf5 : MethodName := ⟨RJ0, "length", "()I"⟩
abbrev cJ0_charAt_5068e : ByteArray := prog_13_method_56_code
def yJ0_charAt_5068e : MethodName := ⟨RJ0, "charAt", "(I)C"⟩
abbrev cJ0_coder_7d493 : ByteArray := prog_13_method_152_code
def yJ0_coder_7d493 : MethodName := ⟨RJ0, "coder", "()B"⟩
abbrev cJ0_isLatin1_aae02 : ByteArray := prog_13_method_154_code
def yJ0_isLatin1_aae02 : MethodName := ⟨RJ0, "isLatin1", "()Z"⟩
abbrev cJ0_checkIndex_df160 : ByteArray := prog_13_method_155_code
def yJ0_checkIndex_df160 : MethodName := ⟨RJ0, "checkIndex", "(II)V"⟩
def RJ1 : String := "java/lang/StringLatin1"
abbrev cJ1_charAt_3b067 : ByteArray := prog_14_method_2_code
def yJ1_charAt_3b067 : MethodName := ⟨RJ1, "charAt", "([BI)C"⟩
def RJ2 : String := "java/lang/StringUTF16"
def RJ10 : String := "java/lang/System"
def RJ3 : String := "jdk/internal/util/Preconditions"
abbrev cJ3_checkIndex_8e157 : ByteArray := prog_17_method_11_code
def yJ3_checkIndex_8e157 : MethodName := ⟨RJ3, "checkIndex", "(IILjava/util/function/BiFunction;)I"⟩
def RL : String := "SieveGuestsLaw"
abbrev cL_law : ByteArray := code
def yL_law : MethodName := ⟨RL, "law", "([I)Z"⟩
abbrev vwCl : List vw_C := [(RX0, TX0, 2), (RX1, TX1, 1), (RX2, TX2, 9), (RX3, TX3, 4), (RX4, TX4, 7), (RX6, TX6, 14), (RX7, TX7, 10), (RX8, TX8, 18)]
