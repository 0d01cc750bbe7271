section
-- ===== PART A: goes FIRST, ahead of the names: the tables' words, and 'selects' of the private methods out of them =====
/-- a private method of a class that the tables say can be made, by its rows of tables_1 -/
def lw_okq (q : MethodName × Nat) : Prop := (q.1.cls ≠ "java/lang/invoke/MethodHandle" ∧ q.1.cls ≠ "java/lang/invoke/VarHandle") ∧ Cond.instantiable q.1.cls q.2 ∈ tables_1 ∧ Cond.privateMethod q.1 ∈ tables_1 ∧ Cond.instanceMethod q.1 ∈ tables_1
theorem lw_p0 : lw_okq (⟨"ShornYear", "found", "(I)I"⟩, 8) := ⟨⟨by decide +kernel, by decide +kernel⟩, List.mem_of_getElem? (i := 15) (by decide +kernel), List.mem_of_getElem? (i := 179) (by decide +kernel), List.mem_of_getElem? (i := 180) (by decide +kernel)⟩
theorem lw_p1 : lw_okq (⟨"ShornYear", "isEwe", "(I)Z"⟩, 8) := ⟨⟨by decide +kernel, by decide +kernel⟩, List.mem_of_getElem? (i := 15) (by decide +kernel), List.mem_of_getElem? (i := 230) (by decide +kernel), List.mem_of_getElem? (i := 231) (by decide +kernel)⟩
theorem lw_p2 : lw_okq (⟨"ShornYear", "passAlone", "(I)V"⟩, 8) := ⟨⟨by decide +kernel, by decide +kernel⟩, List.mem_of_getElem? (i := 15) (by decide +kernel), List.mem_of_getElem? (i := 359) (by decide +kernel), List.mem_of_getElem? (i := 360) (by decide +kernel)⟩
theorem lw_p3 : lw_okq (⟨"ShornYear", "passAloneFrom", "(II)V"⟩, 8) := ⟨⟨by decide +kernel, by decide +kernel⟩, List.mem_of_getElem? (i := 15) (by decide +kernel), List.mem_of_getElem? (i := 363) (by decide +kernel), List.mem_of_getElem? (i := 364) (by decide +kernel)⟩
theorem lw_p4 : lw_okq (⟨"ShornYear$Tape", "step", "()V"⟩, 6) := ⟨⟨by decide +kernel, by decide +kernel⟩, List.mem_of_getElem? (i := 93) (by decide +kernel), List.mem_of_getElem? (i := 434) (by decide +kernel), List.mem_of_getElem? (i := 435) (by decide +kernel)⟩
theorem lw_p5 : lw_okq (⟨"ShornYear$Tape", "takeItem", "(LShornYear$Parish;)Z"⟩, 6) := ⟨⟨by decide +kernel, by decide +kernel⟩, List.mem_of_getElem? (i := 93) (by decide +kernel), List.mem_of_getElem? (i := 445) (by decide +kernel), List.mem_of_getElem? (i := 446) (by decide +kernel)⟩
theorem lw_p6 : lw_okq (⟨"ShornYear$Tape", "kindNamed", "()I"⟩, 6) := ⟨⟨by decide +kernel, by decide +kernel⟩, List.mem_of_getElem? (i := 93) (by decide +kernel), List.mem_of_getElem? (i := 449) (by decide +kernel), List.mem_of_getElem? (i := 450) (by decide +kernel)⟩
theorem lw_p7 : lw_okq (⟨"ShornYear$Tape", "isWord", "(Ljava/lang/String;)Z"⟩, 6) := ⟨⟨by decide +kernel, by decide +kernel⟩, List.mem_of_getElem? (i := 93) (by decide +kernel), List.mem_of_getElem? (i := 462) (by decide +kernel), List.mem_of_getElem? (i := 463) (by decide +kernel)⟩
theorem lw_p8 : lw_okq (⟨"ShornYear$Tape", "takeEwe", "(LShornYear$Parish;I)Z"⟩, 6) := ⟨⟨by decide +kernel, by decide +kernel⟩, List.mem_of_getElem? (i := 93) (by decide +kernel), List.mem_of_getElem? (i := 514) (by decide +kernel), List.mem_of_getElem? (i := 515) (by decide +kernel)⟩
theorem lw_p9 : lw_okq (⟨"ShornYear$Tape", "takeNumber", "(I)I"⟩, 6) := ⟨⟨by decide +kernel, by decide +kernel⟩, List.mem_of_getElem? (i := 93) (by decide +kernel), List.mem_of_getElem? (i := 520) (by decide +kernel), List.mem_of_getElem? (i := 521) (by decide +kernel)⟩
theorem lw_p10 : lw_okq (⟨"ShornYear$Tape", "takeWeather", "(LShornYear$Parish;I)Z"⟩, 6) := ⟨⟨by decide +kernel, by decide +kernel⟩, List.mem_of_getElem? (i := 93) (by decide +kernel), List.mem_of_getElem? (i := 526) (by decide +kernel), List.mem_of_getElem? (i := 527) (by decide +kernel)⟩
theorem lw_p11 : lw_okq (⟨"ShornYear$Tape", "takeCut", "(LShornYear$Parish;)Z"⟩, 6) := ⟨⟨by decide +kernel, by decide +kernel⟩, List.mem_of_getElem? (i := 93) (by decide +kernel), List.mem_of_getElem? (i := 532) (by decide +kernel), List.mem_of_getElem? (i := 533) (by decide +kernel)⟩
theorem lw_p12 : lw_okq (⟨"ShornYear$Tape", "takeStore", "(LShornYear$Parish;)Z"⟩, 6) := ⟨⟨by decide +kernel, by decide +kernel⟩, List.mem_of_getElem? (i := 93) (by decide +kernel), List.mem_of_getElem? (i := 539) (by decide +kernel), List.mem_of_getElem? (i := 540) (by decide +kernel)⟩
theorem lw_p13 : lw_okq (⟨"ShornYear", "growsAsTold", "(LShornYear$Sheet;)Z"⟩, 8) := ⟨⟨by decide +kernel, by decide +kernel⟩, List.mem_of_getElem? (i := 15) (by decide +kernel), List.mem_of_getElem? (i := 592) (by decide +kernel), List.mem_of_getElem? (i := 593) (by decide +kernel)⟩
theorem lw_p14 : lw_okq (⟨"ShornYearModel", "becomes", "(II)I"⟩, 16) := ⟨⟨by decide +kernel, by decide +kernel⟩, List.mem_of_getElem? (i := 625) (by decide +kernel), List.mem_of_getElem? (i := 696) (by decide +kernel), List.mem_of_getElem? (i := 697) (by decide +kernel)⟩
theorem lw_p15 : lw_okq (⟨"ShornYearModel", "finds", "(I)I"⟩, 16) := ⟨⟨by decide +kernel, by decide +kernel⟩, List.mem_of_getElem? (i := 625) (by decide +kernel), List.mem_of_getElem? (i := 701) (by decide +kernel), List.mem_of_getElem? (i := 702) (by decide +kernel)⟩
def lw_privs_1 : List (MethodName × Nat) := [(⟨"ShornYear", "found", "(I)I"⟩, 8), (⟨"ShornYear", "isEwe", "(I)Z"⟩, 8), (⟨"ShornYear", "passAlone", "(I)V"⟩, 8), (⟨"ShornYear", "passAloneFrom", "(II)V"⟩, 8), (⟨"ShornYear$Tape", "step", "()V"⟩, 6), (⟨"ShornYear$Tape", "takeItem", "(LShornYear$Parish;)Z"⟩, 6), (⟨"ShornYear$Tape", "kindNamed", "()I"⟩, 6), (⟨"ShornYear$Tape", "isWord", "(Ljava/lang/String;)Z"⟩, 6), (⟨"ShornYear$Tape", "takeEwe", "(LShornYear$Parish;I)Z"⟩, 6), (⟨"ShornYear$Tape", "takeNumber", "(I)I"⟩, 6), (⟨"ShornYear$Tape", "takeWeather", "(LShornYear$Parish;I)Z"⟩, 6), (⟨"ShornYear$Tape", "takeCut", "(LShornYear$Parish;)Z"⟩, 6), (⟨"ShornYear$Tape", "takeStore", "(LShornYear$Parish;)Z"⟩, 6), (⟨"ShornYear", "growsAsTold", "(LShornYear$Sheet;)Z"⟩, 8), (⟨"ShornYearModel", "becomes", "(II)I"⟩, 16), (⟨"ShornYearModel", "finds", "(I)I"⟩, 16)]
theorem lw_r1 : ∀ q ∈ lw_privs_1, lw_okq q := List.forall_mem_cons.mpr ⟨lw_p0, List.forall_mem_cons.mpr ⟨lw_p1, List.forall_mem_cons.mpr ⟨lw_p2, List.forall_mem_cons.mpr ⟨lw_p3, List.forall_mem_cons.mpr ⟨lw_p4, List.forall_mem_cons.mpr ⟨lw_p5, List.forall_mem_cons.mpr ⟨lw_p6, List.forall_mem_cons.mpr ⟨lw_p7, List.forall_mem_cons.mpr ⟨lw_p8, List.forall_mem_cons.mpr ⟨lw_p9, List.forall_mem_cons.mpr ⟨lw_p10, List.forall_mem_cons.mpr ⟨lw_p11, List.forall_mem_cons.mpr ⟨lw_p12, List.forall_mem_cons.mpr ⟨lw_p13, List.forall_mem_cons.mpr ⟨lw_p14, List.forall_mem_cons.mpr ⟨lw_p15, fun _ h => absurd h List.not_mem_nil⟩⟩⟩⟩⟩⟩⟩⟩⟩⟩⟩⟩⟩⟩⟩⟩
theorem lw_p16 : lw_okq (⟨"ShornYearModel", "ofYear", "()I"⟩, 16) := ⟨⟨by decide +kernel, by decide +kernel⟩, List.mem_of_getElem? (i := 625) (by decide +kernel), List.mem_of_getElem? (i := 714) (by decide +kernel), List.mem_of_getElem? (i := 715) (by decide +kernel)⟩
theorem lw_p17 : lw_okq (⟨"ShornYearModel", "twelve", "(I)I"⟩, 16) := ⟨⟨by decide +kernel, by decide +kernel⟩, List.mem_of_getElem? (i := 625) (by decide +kernel), List.mem_of_getElem? (i := 718) (by decide +kernel), List.mem_of_getElem? (i := 719) (by decide +kernel)⟩
theorem lw_p18 : lw_okq (⟨"ShornYearModel", "fleeces", "()I"⟩, 16) := ⟨⟨by decide +kernel, by decide +kernel⟩, List.mem_of_getElem? (i := 625) (by decide +kernel), List.mem_of_getElem? (i := 722) (by decide +kernel), List.mem_of_getElem? (i := 723) (by decide +kernel)⟩
theorem lw_p19 : lw_okq (⟨"ShornYearModel", "woolOf", "(I)I"⟩, 16) := ⟨⟨by decide +kernel, by decide +kernel⟩, List.mem_of_getElem? (i := 625) (by decide +kernel), List.mem_of_getElem? (i := 726) (by decide +kernel), List.mem_of_getElem? (i := 727) (by decide +kernel)⟩
theorem lw_p20 : lw_okq (⟨"ShornYearModel", "adds", "(I)I"⟩, 16) := ⟨⟨by decide +kernel, by decide +kernel⟩, List.mem_of_getElem? (i := 625) (by decide +kernel), List.mem_of_getElem? (i := 742) (by decide +kernel), List.mem_of_getElem? (i := 743) (by decide +kernel)⟩
theorem lw_p21 : lw_okq (⟨"ShornYearModel", "isEwe", "(I)Z"⟩, 16) := ⟨⟨by decide +kernel, by decide +kernel⟩, List.mem_of_getElem? (i := 625) (by decide +kernel), List.mem_of_getElem? (i := 750) (by decide +kernel), List.mem_of_getElem? (i := 751) (by decide +kernel)⟩
theorem lw_p22 : lw_okq (⟨"ShornYearModel", "its", "(II)I"⟩, 16) := ⟨⟨by decide +kernel, by decide +kernel⟩, List.mem_of_getElem? (i := 625) (by decide +kernel), List.mem_of_getElem? (i := 755) (by decide +kernel), List.mem_of_getElem? (i := 756) (by decide +kernel)⟩
theorem lw_p23 : lw_okq (⟨"ShornYearModel", "calmsOf", "(I)I"⟩, 16) := ⟨⟨by decide +kernel, by decide +kernel⟩, List.mem_of_getElem? (i := 625) (by decide +kernel), List.mem_of_getElem? (i := 759) (by decide +kernel), List.mem_of_getElem? (i := 760) (by decide +kernel)⟩
theorem lw_p24 : lw_okq (⟨"ShornYearModel", "growsIn", "(II)I"⟩, 16) := ⟨⟨by decide +kernel, by decide +kernel⟩, List.mem_of_getElem? (i := 625) (by decide +kernel), List.mem_of_getElem? (i := 771) (by decide +kernel), List.mem_of_getElem? (i := 772) (by decide +kernel)⟩
theorem lw_p25 : lw_okq (⟨"ShornYearModel", "losesOf", "(I)I"⟩, 16) := ⟨⟨by decide +kernel, by decide +kernel⟩, List.mem_of_getElem? (i := 625) (by decide +kernel), List.mem_of_getElem? (i := 775) (by decide +kernel), List.mem_of_getElem? (i := 776) (by decide +kernel)⟩
theorem lw_p26 : lw_okq (⟨"ShornYearModel", "burrsIn", "(II)I"⟩, 16) := ⟨⟨by decide +kernel, by decide +kernel⟩, List.mem_of_getElem? (i := 625) (by decide +kernel), List.mem_of_getElem? (i := 779) (by decide +kernel), List.mem_of_getElem? (i := 780) (by decide +kernel)⟩
theorem lw_p27 : lw_okq (⟨"ShornYearModel", "cuts", "(III)I"⟩, 16) := ⟨⟨by decide +kernel, by decide +kernel⟩, List.mem_of_getElem? (i := 625) (by decide +kernel), List.mem_of_getElem? (i := 812) (by decide +kernel), List.mem_of_getElem? (i := 813) (by decide +kernel)⟩
theorem lw_p28 : lw_okq (⟨"ShornYearModel", "warmthOf", "(I)I"⟩, 16) := ⟨⟨by decide +kernel, by decide +kernel⟩, List.mem_of_getElem? (i := 625) (by decide +kernel), List.mem_of_getElem? (i := 820) (by decide +kernel), List.mem_of_getElem? (i := 821) (by decide +kernel)⟩
theorem lw_p29 : lw_okq (⟨"ShornYearModel", "harshOf", "(I)I"⟩, 16) := ⟨⟨by decide +kernel, by decide +kernel⟩, List.mem_of_getElem? (i := 625) (by decide +kernel), List.mem_of_getElem? (i := 824) (by decide +kernel), List.mem_of_getElem? (i := 825) (by decide +kernel)⟩
theorem lw_p30 : lw_okq (⟨"ShornYearModel", "monthsIn", "(I)I"⟩, 16) := ⟨⟨by decide +kernel, by decide +kernel⟩, List.mem_of_getElem? (i := 625) (by decide +kernel), List.mem_of_getElem? (i := 828) (by decide +kernel), List.mem_of_getElem? (i := 829) (by decide +kernel)⟩
theorem lw_p31 : lw_okq (⟨"ShornYearModel", "monthsGo", "(I)V"⟩, 16) := ⟨⟨by decide +kernel, by decide +kernel⟩, List.mem_of_getElem? (i := 625) (by decide +kernel), List.mem_of_getElem? (i := 844) (by decide +kernel), List.mem_of_getElem? (i := 845) (by decide +kernel)⟩
def lw_privs_2 : List (MethodName × Nat) := [(⟨"ShornYearModel", "ofYear", "()I"⟩, 16), (⟨"ShornYearModel", "twelve", "(I)I"⟩, 16), (⟨"ShornYearModel", "fleeces", "()I"⟩, 16), (⟨"ShornYearModel", "woolOf", "(I)I"⟩, 16), (⟨"ShornYearModel", "adds", "(I)I"⟩, 16), (⟨"ShornYearModel", "isEwe", "(I)Z"⟩, 16), (⟨"ShornYearModel", "its", "(II)I"⟩, 16), (⟨"ShornYearModel", "calmsOf", "(I)I"⟩, 16), (⟨"ShornYearModel", "growsIn", "(II)I"⟩, 16), (⟨"ShornYearModel", "losesOf", "(I)I"⟩, 16), (⟨"ShornYearModel", "burrsIn", "(II)I"⟩, 16), (⟨"ShornYearModel", "cuts", "(III)I"⟩, 16), (⟨"ShornYearModel", "warmthOf", "(I)I"⟩, 16), (⟨"ShornYearModel", "harshOf", "(I)I"⟩, 16), (⟨"ShornYearModel", "monthsIn", "(I)I"⟩, 16), (⟨"ShornYearModel", "monthsGo", "(I)V"⟩, 16)]
theorem lw_r2 : ∀ q ∈ lw_privs_2, lw_okq q := List.forall_mem_cons.mpr ⟨lw_p16, List.forall_mem_cons.mpr ⟨lw_p17, List.forall_mem_cons.mpr ⟨lw_p18, List.forall_mem_cons.mpr ⟨lw_p19, List.forall_mem_cons.mpr ⟨lw_p20, List.forall_mem_cons.mpr ⟨lw_p21, List.forall_mem_cons.mpr ⟨lw_p22, List.forall_mem_cons.mpr ⟨lw_p23, List.forall_mem_cons.mpr ⟨lw_p24, List.forall_mem_cons.mpr ⟨lw_p25, List.forall_mem_cons.mpr ⟨lw_p26, List.forall_mem_cons.mpr ⟨lw_p27, List.forall_mem_cons.mpr ⟨lw_p28, List.forall_mem_cons.mpr ⟨lw_p29, List.forall_mem_cons.mpr ⟨lw_p30, List.forall_mem_cons.mpr ⟨lw_p31, fun _ h => absurd h List.not_mem_nil⟩⟩⟩⟩⟩⟩⟩⟩⟩⟩⟩⟩⟩⟩⟩⟩
theorem lw_p32 : lw_okq (⟨"ShornYearModel", "month", "()V"⟩, 16) := ⟨⟨by decide +kernel, by decide +kernel⟩, List.mem_of_getElem? (i := 625) (by decide +kernel), List.mem_of_getElem? (i := 848) (by decide +kernel), List.mem_of_getElem? (i := 849) (by decide +kernel)⟩
theorem lw_p33 : lw_okq (⟨"ShornYearModel", "isShorn", "(I)V"⟩, 16) := ⟨⟨by decide +kernel, by decide +kernel⟩, List.mem_of_getElem? (i := 625) (by decide +kernel), List.mem_of_getElem? (i := 852) (by decide +kernel), List.mem_of_getElem? (i := 853) (by decide +kernel)⟩
theorem lw_p34 : lw_okq (⟨"ShornYearModel", "twelveBehind", "(II)I"⟩, 16) := ⟨⟨by decide +kernel, by decide +kernel⟩, List.mem_of_getElem? (i := 625) (by decide +kernel), List.mem_of_getElem? (i := 864) (by decide +kernel), List.mem_of_getElem? (i := 865) (by decide +kernel)⟩
theorem lw_p35 : lw_okq (⟨"ShornYearModel", "laysAside", "()V"⟩, 16) := ⟨⟨by decide +kernel, by decide +kernel⟩, List.mem_of_getElem? (i := 625) (by decide +kernel), List.mem_of_getElem? (i := 868) (by decide +kernel), List.mem_of_getElem? (i := 869) (by decide +kernel)⟩
theorem lw_p36 : lw_okq (⟨"ShornYearModel", "takesBack", "(I)I"⟩, 16) := ⟨⟨by decide +kernel, by decide +kernel⟩, List.mem_of_getElem? (i := 625) (by decide +kernel), List.mem_of_getElem? (i := 872) (by decide +kernel), List.mem_of_getElem? (i := 873) (by decide +kernel)⟩
theorem lw_p37 : lw_okq (⟨"ShornYearModel", "behind", "(II)I"⟩, 16) := ⟨⟨by decide +kernel, by decide +kernel⟩, List.mem_of_getElem? (i := 625) (by decide +kernel), List.mem_of_getElem? (i := 876) (by decide +kernel), List.mem_of_getElem? (i := 877) (by decide +kernel)⟩
theorem lw_p38 : lw_okq (⟨"ShornYearModel", "firstAs", "(III)I"⟩, 16) := ⟨⟨by decide +kernel, by decide +kernel⟩, List.mem_of_getElem? (i := 625) (by decide +kernel), List.mem_of_getElem? (i := 889) (by decide +kernel), List.mem_of_getElem? (i := 890) (by decide +kernel)⟩
theorem lw_p39 : lw_okq (⟨"ShornYearModel", "saves", "()V"⟩, 16) := ⟨⟨by decide +kernel, by decide +kernel⟩, List.mem_of_getElem? (i := 625) (by decide +kernel), List.mem_of_getElem? (i := 940) (by decide +kernel), List.mem_of_getElem? (i := 941) (by decide +kernel)⟩
theorem lw_p40 : lw_okq (⟨"ShornYearModel", "token", "()V"⟩, 16) := ⟨⟨by decide +kernel, by decide +kernel⟩, List.mem_of_getElem? (i := 625) (by decide +kernel), List.mem_of_getElem? (i := 944) (by decide +kernel), List.mem_of_getElem? (i := 945) (by decide +kernel)⟩
theorem lw_p41 : lw_okq (⟨"ShornYearModel", "byteAt", "(I)I"⟩, 16) := ⟨⟨by decide +kernel, by decide +kernel⟩, List.mem_of_getElem? (i := 625) (by decide +kernel), List.mem_of_getElem? (i := 948) (by decide +kernel), List.mem_of_getElem? (i := 949) (by decide +kernel)⟩
theorem lw_p42 : lw_okq (⟨"ShornYearModel", "item", "()V"⟩, 16) := ⟨⟨by decide +kernel, by decide +kernel⟩, List.mem_of_getElem? (i := 625) (by decide +kernel), List.mem_of_getElem? (i := 962) (by decide +kernel), List.mem_of_getElem? (i := 963) (by decide +kernel)⟩
theorem lw_p43 : lw_okq (⟨"ShornYearModel", "kindHere", "()I"⟩, 16) := ⟨⟨by decide +kernel, by decide +kernel⟩, List.mem_of_getElem? (i := 625) (by decide +kernel), List.mem_of_getElem? (i := 966) (by decide +kernel), List.mem_of_getElem? (i := 967) (by decide +kernel)⟩
theorem lw_p44 : lw_okq (⟨"ShornYearModel", "word", "()J"⟩, 16) := ⟨⟨by decide +kernel, by decide +kernel⟩, List.mem_of_getElem? (i := 625) (by decide +kernel), List.mem_of_getElem? (i := 970) (by decide +kernel), List.mem_of_getElem? (i := 971) (by decide +kernel)⟩
theorem lw_p45 : lw_okq (⟨"ShornYearModel", "eweItem", "(I)V"⟩, 16) := ⟨⟨by decide +kernel, by decide +kernel⟩, List.mem_of_getElem? (i := 625) (by decide +kernel), List.mem_of_getElem? (i := 982) (by decide +kernel), List.mem_of_getElem? (i := 983) (by decide +kernel)⟩
theorem lw_p46 : lw_okq (⟨"ShornYearModel", "must", "(Z)V"⟩, 16) := ⟨⟨by decide +kernel, by decide +kernel⟩, List.mem_of_getElem? (i := 625) (by decide +kernel), List.mem_of_getElem? (i := 986) (by decide +kernel), List.mem_of_getElem? (i := 987) (by decide +kernel)⟩
theorem lw_p47 : lw_okq (⟨"ShornYearModel", "number", "(II)V"⟩, 16) := ⟨⟨by decide +kernel, by decide +kernel⟩, List.mem_of_getElem? (i := 625) (by decide +kernel), List.mem_of_getElem? (i := 991) (by decide +kernel), List.mem_of_getElem? (i := 992) (by decide +kernel)⟩
def lw_privs_3 : List (MethodName × Nat) := [(⟨"ShornYearModel", "month", "()V"⟩, 16), (⟨"ShornYearModel", "isShorn", "(I)V"⟩, 16), (⟨"ShornYearModel", "twelveBehind", "(II)I"⟩, 16), (⟨"ShornYearModel", "laysAside", "()V"⟩, 16), (⟨"ShornYearModel", "takesBack", "(I)I"⟩, 16), (⟨"ShornYearModel", "behind", "(II)I"⟩, 16), (⟨"ShornYearModel", "firstAs", "(III)I"⟩, 16), (⟨"ShornYearModel", "saves", "()V"⟩, 16), (⟨"ShornYearModel", "token", "()V"⟩, 16), (⟨"ShornYearModel", "byteAt", "(I)I"⟩, 16), (⟨"ShornYearModel", "item", "()V"⟩, 16), (⟨"ShornYearModel", "kindHere", "()I"⟩, 16), (⟨"ShornYearModel", "word", "()J"⟩, 16), (⟨"ShornYearModel", "eweItem", "(I)V"⟩, 16), (⟨"ShornYearModel", "must", "(Z)V"⟩, 16), (⟨"ShornYearModel", "number", "(II)V"⟩, 16)]
theorem lw_r3 : ∀ q ∈ lw_privs_3, lw_okq q := List.forall_mem_cons.mpr ⟨lw_p32, List.forall_mem_cons.mpr ⟨lw_p33, List.forall_mem_cons.mpr ⟨lw_p34, List.forall_mem_cons.mpr ⟨lw_p35, List.forall_mem_cons.mpr ⟨lw_p36, List.forall_mem_cons.mpr ⟨lw_p37, List.forall_mem_cons.mpr ⟨lw_p38, List.forall_mem_cons.mpr ⟨lw_p39, List.forall_mem_cons.mpr ⟨lw_p40, List.forall_mem_cons.mpr ⟨lw_p41, List.forall_mem_cons.mpr ⟨lw_p42, List.forall_mem_cons.mpr ⟨lw_p43, List.forall_mem_cons.mpr ⟨lw_p44, List.forall_mem_cons.mpr ⟨lw_p45, List.forall_mem_cons.mpr ⟨lw_p46, List.forall_mem_cons.mpr ⟨lw_p47, fun _ h => absurd h List.not_mem_nil⟩⟩⟩⟩⟩⟩⟩⟩⟩⟩⟩⟩⟩⟩⟩⟩
theorem lw_p48 : lw_okq (⟨"ShornYearModel", "weatherItem", "(I)V"⟩, 16) := ⟨⟨by decide +kernel, by decide +kernel⟩, List.mem_of_getElem? (i := 625) (by decide +kernel), List.mem_of_getElem? (i := 996) (by decide +kernel), List.mem_of_getElem? (i := 997) (by decide +kernel)⟩
theorem lw_p49 : lw_okq (⟨"ShornYearModel", "cutItem", "()V"⟩, 16) := ⟨⟨by decide +kernel, by decide +kernel⟩, List.mem_of_getElem? (i := 625) (by decide +kernel), List.mem_of_getElem? (i := 1002) (by decide +kernel), List.mem_of_getElem? (i := 1003) (by decide +kernel)⟩
theorem lw_p50 : lw_okq (⟨"ShornYearModel", "storeItem", "()V"⟩, 16) := ⟨⟨by decide +kernel, by decide +kernel⟩, List.mem_of_getElem? (i := 625) (by decide +kernel), List.mem_of_getElem? (i := 1007) (by decide +kernel), List.mem_of_getElem? (i := 1008) (by decide +kernel)⟩
theorem lw_p51 : lw_okq (⟨"ShornYearModel", "putsBack", "()V"⟩, 16) := ⟨⟨by decide +kernel, by decide +kernel⟩, List.mem_of_getElem? (i := 625) (by decide +kernel), List.mem_of_getElem? (i := 1011) (by decide +kernel), List.mem_of_getElem? (i := 1012) (by decide +kernel)⟩
theorem lw_p52 : lw_okq (⟨"ShornYearModel", "wrongSheet", "(I)I"⟩, 16) := ⟨⟨by decide +kernel, by decide +kernel⟩, List.mem_of_getElem? (i := 625) (by decide +kernel), List.mem_of_getElem? (i := 1027) (by decide +kernel), List.mem_of_getElem? (i := 1028) (by decide +kernel)⟩
theorem lw_p53 : lw_okq (⟨"ShornYearModel", "isBook", "(II)Z"⟩, 16) := ⟨⟨by decide +kernel, by decide +kernel⟩, List.mem_of_getElem? (i := 625) (by decide +kernel), List.mem_of_getElem? (i := 1051) (by decide +kernel), List.mem_of_getElem? (i := 1052) (by decide +kernel)⟩
theorem lw_p54 : lw_okq (⟨"ShornYearModel", "coatsMade", "()I"⟩, 16) := ⟨⟨by decide +kernel, by decide +kernel⟩, List.mem_of_getElem? (i := 625) (by decide +kernel), List.mem_of_getElem? (i := 1071) (by decide +kernel), List.mem_of_getElem? (i := 1072) (by decide +kernel)⟩
theorem lw_p55 : lw_okq (⟨"ShornYearModel", "frights", "()I"⟩, 16) := ⟨⟨by decide +kernel, by decide +kernel⟩, List.mem_of_getElem? (i := 625) (by decide +kernel), List.mem_of_getElem? (i := 1075) (by decide +kernel), List.mem_of_getElem? (i := 1076) (by decide +kernel)⟩
def lw_privs_4 : List (MethodName × Nat) := [(⟨"ShornYearModel", "weatherItem", "(I)V"⟩, 16), (⟨"ShornYearModel", "cutItem", "()V"⟩, 16), (⟨"ShornYearModel", "storeItem", "()V"⟩, 16), (⟨"ShornYearModel", "putsBack", "()V"⟩, 16), (⟨"ShornYearModel", "wrongSheet", "(I)I"⟩, 16), (⟨"ShornYearModel", "isBook", "(II)Z"⟩, 16), (⟨"ShornYearModel", "coatsMade", "()I"⟩, 16), (⟨"ShornYearModel", "frights", "()I"⟩, 16)]
theorem lw_r4 : ∀ q ∈ lw_privs_4, lw_okq q := List.forall_mem_cons.mpr ⟨lw_p48, List.forall_mem_cons.mpr ⟨lw_p49, List.forall_mem_cons.mpr ⟨lw_p50, List.forall_mem_cons.mpr ⟨lw_p51, List.forall_mem_cons.mpr ⟨lw_p52, List.forall_mem_cons.mpr ⟨lw_p53, List.forall_mem_cons.mpr ⟨lw_p54, List.forall_mem_cons.mpr ⟨lw_p55, fun _ h => absurd h List.not_mem_nil⟩⟩⟩⟩⟩⟩⟩⟩
def lw_privs : List (MethodName × Nat) := lw_privs_1 ++ (lw_privs_2 ++ (lw_privs_3 ++ (lw_privs_4)))
def lw_tbl : List Cond := k2_sels lw_privs ++ tables_1
theorem lw_privs_ok : ∀ q ∈ lw_privs, lw_okq q := by
  show ∀ q ∈ lw_privs_1 ++ (lw_privs_2 ++ (lw_privs_3 ++ (lw_privs_4))), lw_okq q
  exact List.forall_mem_append.mpr ⟨lw_r1, List.forall_mem_append.mpr ⟨lw_r2, List.forall_mem_append.mpr ⟨lw_r3, lw_r4⟩⟩⟩
/-! ===== BEGIN words of one list among another's, by their places ===== -/
theorem goodIn_r {big : List Cond} (ws : List Cond) (ps : List Nat) (hp : ws = ps.filterMap (fun i => big[i]?)) (h : ws.all goodWord = true) : GoodIn big ws := by
  intro w hw
  have h1 := List.all_eq_true.mp h w hw
  rw [hp] at hw
  obtain ⟨i, -, hi⟩ := List.mem_filterMap.mp hw
  have hm : w ∈ big := by first | exact List.mem_of_getElem? hi | exact List.getElem?_mem hi
  exact ⟨hm, good_of_word h1⟩
theorem goodIn_app {big a b : List Cond} (ha : GoodIn big a) (hb : GoodIn big b) : GoodIn big (a ++ b) := fun w h => (List.mem_append.mp h).elim (ha w) (hb w)
theorem goodIn_ca {big a b : List Cond} {c : Cond} (ha : GoodIn big (c :: a)) (hb : GoodIn big b) : GoodIn big (c :: (a ++ b)) := fun w h => (List.mem_cons.mp h).elim (fun e => ha w (List.mem_cons.mpr (Or.inl e))) (fun h => (List.mem_append.mp h).elim (fun h => ha w (List.mem_cons.mpr (Or.inr h))) (hb w))
theorem goodIn_sub {big ws : List Cond} (hm : ∀ w ∈ ws, w ∈ big) (h : ws.all goodWord = true) : GoodIn big ws := fun w hw => ⟨hm w hw, good_of_word (List.all_eq_true.mp h w hw)⟩
/-! ===== END ===== -/
end
section
def RX0 : String := "ShornYear$Ewe"
def TX0 : u_T := fun k => match k with
  | 0 => ("ShornYear$Ewe", "kind", "I", false)
  | 1 => ("ShornYear$Ewe", "fright", "I", false)
  | 2 => ("ShornYear$Ewe", "wool", "I", false)
  | _ => ("ShornYear$Ewe", "fleece", "[I", true)
def tyX0 : Nat → FieldType := fun k => match k with
  | 0 => .int
  | 1 => .int
  | 2 => .int
  | _ => .array .int
abbrev wsX00 : List Cond := u_ws RX0 TX0 4
theorem nmX0 : ∀ a, a < 4 → ∀ b, b < 4 → a ≠ b → (TX0 a).2.1 ≠ (TX0 b).2.1 := by decide +kernel
theorem tyX0_ok : ∀ k, k < 4 → parseFieldDescriptor (TX0 k).2.2.1 = some (tyX0 k) := by decide +kernel
abbrev cX0_init : ByteArray := prog_2_method_1_code
def yX0_init : MethodName := ⟨RX0, "<init>", "()V"⟩
abbrev cX0_become : ByteArray := prog_2_method_2_code
def yX0_become : MethodName := ⟨RX0, "become", "(LShornYear$Ewe;)V"⟩
abbrev cX0_grow : ByteArray := prog_2_method_3_code
def yX0_grow : MethodName := ⟨RX0, "grow", "(II)V"⟩
abbrev cX0_bare : ByteArray := prog_2_method_4_code
def yX0_bare : MethodName := ⟨RX0, "bare", "()V"⟩
def RX1 : String := "ShornYear$Parish"
def TX1 : u_T := fun k => match k with
  | 0 => ("ShornYear$Parish", "month", "I", false)
  | 1 => ("ShornYear$Parish", "size", "I", false)
  | 2 => ("ShornYear$Parish", "weather", "[I", true)
  | 3 => ("ShornYear$Parish", "store", "[I", true)
  | 4 => ("ShornYear$Parish", "rough", "[I", true)
  | 5 => ("ShornYear$Parish", "ewes", "[LShornYear$Ewe;", true)
  | _ => ("ShornYear$Parish", "coats", "[[I", true)
def tyX1 : Nat → FieldType := fun k => match k with
  | 0 => .int
  | 1 => .int
  | 2 => .array .int
  | 3 => .array .int
  | 4 => .array .int
  | 5 => .array (.object "ShornYear$Ewe")
  | _ => .array (.array .int)
abbrev wsX10 : List Cond := u_ws RX1 TX1 7
theorem nmX1 : ∀ a, a < 7 → ∀ b, b < 7 → a ≠ b → (TX1 a).2.1 ≠ (TX1 b).2.1 := by decide +kernel
theorem tyX1_ok : ∀ k, k < 7 → parseFieldDescriptor (TX1 k).2.2.1 = some (tyX1 k) := by decide +kernel
abbrev cX1_init : ByteArray := prog_3_method_1_code
def yX1_init : MethodName := ⟨RX1, "<init>", "()V"⟩
abbrev cX1_become : ByteArray := prog_3_method_2_code
def yX1_become : MethodName := ⟨RX1, "become", "(LShornYear$Parish;)V"⟩
abbrev cX1_monthOfYear : ByteArray := prog_3_method_3_code
def yX1_monthOfYear : MethodName := ⟨RX1, "monthOfYear", "()I"⟩
abbrev cX1_isFull : ByteArray := prog_3_method_4_code
def yX1_isFull : MethodName := ⟨RX1, "isFull", "()Z"⟩
abbrev cX1_add : ByteArray := prog_3_method_5_code
def yX1_add : MethodName := ⟨RX1, "add", "(II)V"⟩
abbrev cX1_pass : ByteArray := prog_3_method_6_code
def yX1_pass : MethodName := ⟨RX1, "pass", "(I)V"⟩
abbrev cX1_passOne : ByteArray := prog_3_method_7_code
def yX1_passOne : MethodName := ⟨RX1, "passOne", "()V"⟩
abbrev cX1_shear : ByteArray := prog_3_method_8_code
def yX1_shear : MethodName := ⟨RX1, "shear", "(LShornYear$Ewe;)V"⟩
abbrev cX1_roomInCoat : ByteArray := prog_3_method_9_code
def yX1_roomInCoat : MethodName := ⟨RX1, "roomInCoat", "(II)I"⟩
abbrev cX1_cutFor : ByteArray := prog_3_method_10_code
def yX1_cutFor : MethodName := ⟨RX1, "cutFor", "(III)V"⟩
abbrev cX1_undoCoat : ByteArray := prog_3_method_11_code
def yX1_undoCoat : MethodName := ⟨RX1, "undoCoat", "(I)V"⟩
abbrev cX1_warmthOf : ByteArray := prog_3_method_12_code
def yX1_warmthOf : MethodName := ⟨RX1, "warmthOf", "(II)I"⟩
abbrev cX1_warmthOfCoat : ByteArray := prog_3_method_13_code
def yX1_warmthOfCoat : MethodName := ⟨RX1, "warmthOfCoat", "(I)I"⟩
abbrev cX1_harshnessOfCoat : ByteArray := prog_3_method_14_code
def yX1_harshnessOfCoat : MethodName := ⟨RX1, "harshnessOfCoat", "(I)I"⟩
abbrev cX1_monthsInCoat : ByteArray := prog_3_method_15_code
def yX1_monthsInCoat : MethodName := ⟨RX1, "monthsInCoat", "(I)I"⟩
abbrev cX1_coatsWithWool : ByteArray := prog_3_method_16_code
def yX1_coatsWithWool : MethodName := ⟨RX1, "coatsWithWool", "()I"⟩
abbrev cX1_woolOnAll : ByteArray := prog_3_method_17_code
def yX1_woolOnAll : MethodName := ⟨RX1, "woolOnAll", "()I"⟩
abbrev cX1_frightOfAll : ByteArray := prog_3_method_18_code
def yX1_frightOfAll : MethodName := ⟨RX1, "frightOfAll", "()I"⟩
def RX2 : String := "ShornYear$Sheet"
def TX2 : u_T := fun k => match k with
  | 0 => ("ShornYear$Sheet", "numbers", "[J", true)
  | 1 => ("ShornYear$Sheet", "size", "I", false)
  | _ => ("ShornYear$Sheet", "bits", "I", false)
def tyX2 : Nat → FieldType := fun k => match k with
  | 0 => .array .long
  | 1 => .int
  | _ => .int
abbrev wsX20 : List Cond := u_ws RX2 TX2 3
theorem nmX2 : ∀ a, a < 3 → ∀ b, b < 3 → a ≠ b → (TX2 a).2.1 ≠ (TX2 b).2.1 := by decide +kernel
theorem tyX2_ok : ∀ k, k < 3 → parseFieldDescriptor (TX2 k).2.2.1 = some (tyX2 k) := by decide +kernel
abbrev cX2_init : ByteArray := prog_4_method_1_code
def yX2_init : MethodName := ⟨RX2, "<init>", "()V"⟩
abbrev cX2_isMissing : ByteArray := prog_4_method_2_code
def yX2_isMissing : MethodName := ⟨RX2, "isMissing", "()Z"⟩
abbrev cX2_lay : ByteArray := prog_4_method_3_code
def yX2_lay : MethodName := ⟨RX2, "lay", "(II)V"⟩
abbrev cX2_has : ByteArray := prog_4_method_4_code
def yX2_has : MethodName := ⟨RX2, "has", "(II)Z"⟩
abbrev cX2_put : ByteArray := prog_4_method_5_code
def yX2_put : MethodName := ⟨RX2, "put", "(IJ)V"⟩
def RX3 : String := "ShornYear$Tape"
def TX3 : u_T := fun k => match k with
  | 0 => ("ShornYear$Tape", "bytes", "[B", true)
  | 1 => ("ShornYear$Tape", "size", "I", false)
  | 2 => ("ShornYear$Tape", "token", "I", false)
  | 3 => ("ShornYear$Tape", "start", "I", false)
  | 4 => ("ShornYear$Tape", "end", "I", false)
  | _ => ("ShornYear$Tape", "value", "I", false)
def tyX3 : Nat → FieldType := fun k => match k with
  | 0 => .array .byte
  | 1 => .int
  | 2 => .int
  | 3 => .int
  | 4 => .int
  | _ => .int
abbrev wsX30 : List Cond := u_ws RX3 TX3 6
theorem nmX3 : ∀ a, a < 6 → ∀ b, b < 6 → a ≠ b → (TX3 a).2.1 ≠ (TX3 b).2.1 := by decide +kernel
theorem tyX3_ok : ∀ k, k < 6 → parseFieldDescriptor (TX3 k).2.2.1 = some (tyX3 k) := by decide +kernel
abbrev cX3_init : ByteArray := prog_5_method_1_code
def yX3_init : MethodName := ⟨RX3, "<init>", "()V"⟩
abbrev cX3_add : ByteArray := prog_5_method_2_code
def yX3_add : MethodName := ⟨RX3, "add", "(B)V"⟩
abbrev cX3_applyTo : ByteArray := prog_5_method_3_code
def yX3_applyTo : MethodName := ⟨RX3, "applyTo", "(LShornYear$Parish;)I"⟩
abbrev cX3_step : ByteArray := prog_5_method_4_code
def yX3_step : MethodName := ⟨RX3, "step", "()V"⟩
abbrev cX3_isLetter : ByteArray := prog_5_method_5_code
def yX3_isLetter : MethodName := ⟨RX3, "isLetter", "(B)Z"⟩
abbrev cX3_isDigit : ByteArray := prog_5_method_6_code
def yX3_isDigit : MethodName := ⟨RX3, "isDigit", "(B)Z"⟩
abbrev cX3_isWord : ByteArray := prog_5_method_7_code
def yX3_isWord : MethodName := ⟨RX3, "isWord", "(Ljava/lang/String;)Z"⟩
abbrev cX3_kindNamed : ByteArray := prog_5_method_8_code
def yX3_kindNamed : MethodName := ⟨RX3, "kindNamed", "()I"⟩
abbrev cX3_nameOfKind : ByteArray := prog_5_method_9_code
def yX3_nameOfKind : MethodName := ⟨RX3, "nameOfKind", "(I)Ljava/lang/String;"⟩
abbrev cX3_takeNumber : ByteArray := prog_5_method_10_code
def yX3_takeNumber : MethodName := ⟨RX3, "takeNumber", "(I)I"⟩
abbrev cX3_takeItem : ByteArray := prog_5_method_11_code
def yX3_takeItem : MethodName := ⟨RX3, "takeItem", "(LShornYear$Parish;)Z"⟩
abbrev cX3_takeEwe : ByteArray := prog_5_method_12_code
def yX3_takeEwe : MethodName := ⟨RX3, "takeEwe", "(LShornYear$Parish;I)Z"⟩
abbrev cX3_takeWeather : ByteArray := prog_5_method_13_code
def yX3_takeWeather : MethodName := ⟨RX3, "takeWeather", "(LShornYear$Parish;I)Z"⟩
abbrev cX3_takeCut : ByteArray := prog_5_method_14_code
def yX3_takeCut : MethodName := ⟨RX3, "takeCut", "(LShornYear$Parish;)Z"⟩
abbrev cX3_takeStore : ByteArray := prog_5_method_15_code
def yX3_takeStore : MethodName := ⟨RX3, "takeStore", "(LShornYear$Parish;)Z"⟩
def RX4 : String := "ShornYear"
def TX4 : u_T := fun k => match k with
  | 0 => ("ShornYear", "here", "LShornYear$Parish;", true)
  | 1 => ("ShornYear", "kept", "LShornYear$Parish;", true)
  | 2 => ("ShornYear", "trial", "LShornYear$Parish;", true)
  | 3 => ("ShornYear", "lone", "LShornYear$Ewe;", true)
  | 4 => ("ShornYear", "tape", "LShornYear$Tape;", true)
  | 5 => ("ShornYear", "sheets", "[LShornYear$Sheet;", true)
  | 6 => ("ShornYear", "told", "[I", true)
  | _ => ("ShornYear", "hasImage", "Z", false)
def tyX4 : Nat → FieldType := fun k => match k with
  | 0 => .object "ShornYear$Parish"
  | 1 => .object "ShornYear$Parish"
  | 2 => .object "ShornYear$Parish"
  | 3 => .object "ShornYear$Ewe"
  | 4 => .object "ShornYear$Tape"
  | 5 => .array (.object "ShornYear$Sheet")
  | 6 => .array .int
  | _ => .boolean
abbrev wsX40 : List Cond := u_ws RX4 TX4 8
theorem nmX4 : ∀ a, a < 8 → ∀ b, b < 8 → a ≠ b → (TX4 a).2.1 ≠ (TX4 b).2.1 := by decide +kernel
theorem tyX4_ok : ∀ k, k < 8 → parseFieldDescriptor (TX4 k).2.2.1 = some (tyX4 k) := by decide +kernel
abbrev cX4_init : ByteArray := prog_1_method_1_code
def yX4_init : MethodName := ⟨RX4, "<init>", "()V"⟩
abbrev cX4_weather : ByteArray := prog_1_method_2_code
def yX4_weather : MethodName := ⟨RX4, "weather", "(II)I"⟩
abbrev cX4_monthOf : ByteArray := prog_1_method_3_code
def yX4_monthOf : MethodName := ⟨RX4, "monthOf", "(II)I"⟩
abbrev cX4_now : ByteArray := prog_1_method_4_code
def yX4_now : MethodName := ⟨RX4, "now", "(I)I"⟩
abbrev cX4_ewe : ByteArray := prog_1_method_5_code
def yX4_ewe : MethodName := ⟨RX4, "ewe", "(I)I"⟩
abbrev cX4_of : ByteArray := prog_1_method_6_code
def yX4_of : MethodName := ⟨RX4, "of", "(II)I"⟩
abbrev cX4_fleece : ByteArray := prog_1_method_7_code
def yX4_fleece : MethodName := ⟨RX4, "fleece", "(II)I"⟩
abbrev cX4_can : ByteArray := prog_1_method_8_code
def yX4_can : MethodName := ⟨RX4, "can", "(III)I"⟩
abbrev cX4_scare : ByteArray := prog_1_method_9_code
def yX4_scare : MethodName := ⟨RX4, "scare", "(II)I"⟩
abbrev cX4_turn : ByteArray := prog_1_method_10_code
def yX4_turn : MethodName := ⟨RX4, "turn", "(II)I"⟩
abbrev cX4_as : ByteArray := prog_1_method_11_code
def yX4_as : MethodName := ⟨RX4, "as", "(II)I"⟩
abbrev cX4_cut : ByteArray := prog_1_method_12_code
def yX4_cut : MethodName := ⟨RX4, "cut", "(III)I"⟩
abbrev cX4_coatOf : ByteArray := prog_1_method_13_code
def yX4_coatOf : MethodName := ⟨RX4, "coatOf", "(II)I"⟩
abbrev cX4_unpick : ByteArray := prog_1_method_14_code
def yX4_unpick : MethodName := ⟨RX4, "unpick", "(I)I"⟩
abbrev cX4_months : ByteArray := prog_1_method_15_code
def yX4_months : MethodName := ⟨RX4, "months", "(I)I"⟩
abbrev cX4_on : ByteArray := prog_1_method_16_code
def yX4_on : MethodName := ⟨RX4, "on", "(III)I"⟩
abbrev cX4_then : ByteArray := prog_1_method_17_code
def yX4_then : MethodName := ⟨RX4, "then", "(III)I"⟩
abbrev cX4_enough : ByteArray := prog_1_method_18_code
def yX4_enough : MethodName := ⟨RX4, "enough", "(II)I"⟩
abbrev cX4_calm : ByteArray := prog_1_method_19_code
def yX4_calm : MethodName := ⟨RX4, "calm", "(I)I"⟩
abbrev cX4_kind : ByteArray := prog_1_method_20_code
def yX4_kind : MethodName := ⟨RX4, "kind", "(II)I"⟩
abbrev cX4_cold : ByteArray := prog_1_method_21_code
def yX4_cold : MethodName := ⟨RX4, "cold", "(III)I"⟩
abbrev cX4_best : ByteArray := prog_1_method_22_code
def yX4_best : MethodName := ⟨RX4, "best", "(II)I"⟩
abbrev cX4_bears : ByteArray := prog_1_method_23_code
def yX4_bears : MethodName := ⟨RX4, "bears", "(III)I"⟩
abbrev cX4_milder : ByteArray := prog_1_method_24_code
def yX4_milder : MethodName := ⟨RX4, "milder", "(I)I"⟩
abbrev cX4_warmest : ByteArray := prog_1_method_25_code
def yX4_warmest : MethodName := ⟨RX4, "warmest", "()I"⟩
abbrev cX4_feed : ByteArray := prog_1_method_26_code
def yX4_feed : MethodName := ⟨RX4, "feed", "(II)I"⟩
abbrev cX4_wipe : ByteArray := prog_1_method_27_code
def yX4_wipe : MethodName := ⟨RX4, "wipe", "()I"⟩
abbrev cX4_parish : ByteArray := prog_1_method_28_code
def yX4_parish : MethodName := ⟨RX4, "parish", "()I"⟩
abbrev cX4_sheet : ByteArray := prog_1_method_29_code
def yX4_sheet : MethodName := ⟨RX4, "sheet", "(III)I"⟩
abbrev cX4_write : ByteArray := prog_1_method_30_code
def yX4_write : MethodName := ⟨RX4, "write", "(IIJ)J"⟩
abbrev cX4_copy : ByteArray := prog_1_method_31_code
def yX4_copy : MethodName := ⟨RX4, "copy", "(IIIII)I"⟩
abbrev cX4_lays : ByteArray := prog_1_method_32_code
def yX4_lays : MethodName := ⟨RX4, "lays", "(I)I"⟩
abbrev cX4_book : ByteArray := prog_1_method_33_code
def yX4_book : MethodName := ⟨RX4, "book", "(II)I"⟩
abbrev cX4_read : ByteArray := prog_1_method_34_code
def yX4_read : MethodName := ⟨RX4, "read", "(II)I"⟩
abbrev cX4_image : ByteArray := prog_1_method_35_code
def yX4_image : MethodName := ⟨RX4, "image", "()I"⟩
abbrev cX4_undo : ByteArray := prog_1_method_36_code
def yX4_undo : MethodName := ⟨RX4, "undo", "()I"⟩
abbrev cX4_tear : ByteArray := prog_1_method_37_code
def yX4_tear : MethodName := ⟨RX4, "tear", "()I"⟩
abbrev cX4_count : ByteArray := prog_1_method_38_code
def yX4_count : MethodName := ⟨RX4, "count", "(I)I"⟩
abbrev cX4_status : ByteArray := prog_1_method_39_code
def yX4_status : MethodName := ⟨RX4, "status", "(I)I"⟩
abbrev cX4_found : ByteArray := prog_1_method_40_code
def yX4_found : MethodName := ⟨RX4, "found", "(I)I"⟩
abbrev cX4_isWithin : ByteArray := prog_1_method_41_code
def yX4_isWithin : MethodName := ⟨RX4, "isWithin", "(III)Z"⟩
abbrev cX4_isMonth : ByteArray := prog_1_method_42_code
def yX4_isMonth : MethodName := ⟨RX4, "isMonth", "(I)Z"⟩
abbrev cX4_isWeather : ByteArray := prog_1_method_43_code
def yX4_isWeather : MethodName := ⟨RX4, "isWeather", "(I)Z"⟩
abbrev cX4_isKind : ByteArray := prog_1_method_44_code
def yX4_isKind : MethodName := ⟨RX4, "isKind", "(I)Z"⟩
abbrev cX4_isCoat : ByteArray := prog_1_method_45_code
def yX4_isCoat : MethodName := ⟨RX4, "isCoat", "(I)Z"⟩
abbrev cX4_isSheet : ByteArray := prog_1_method_46_code
def yX4_isSheet : MethodName := ⟨RX4, "isSheet", "(I)Z"⟩
abbrev cX4_isEwe : ByteArray := prog_1_method_47_code
def yX4_isEwe : MethodName := ⟨RX4, "isEwe", "(I)Z"⟩
abbrev cX4_sum : ByteArray := prog_1_method_48_code
def yX4_sum : MethodName := ⟨RX4, "sum", "([I)I"⟩
abbrev cX4_passAlone : ByteArray := prog_1_method_49_code
def yX4_passAlone : MethodName := ⟨RX4, "passAlone", "(I)V"⟩
abbrev cX4_passAloneFrom : ByteArray := prog_1_method_50_code
def yX4_passAloneFrom : MethodName := ⟨RX4, "passAloneFrom", "(II)V"⟩
abbrev cX4_growsAsTold : ByteArray := prog_1_method_51_code
def yX4_growsAsTold : MethodName := ⟨RX4, "growsAsTold", "(LShornYear$Sheet;)Z"⟩
abbrev cX4_kindAbove : ByteArray := prog_1_method_52_code
def yX4_kindAbove : MethodName := ⟨RX4, "kindAbove", "(I)I"⟩
abbrev cX4_isOfKind : ByteArray := prog_1_method_53_code
def yX4_isOfKind : MethodName := ⟨RX4, "isOfKind", "(II)Z"⟩
abbrev cX4_grows : ByteArray := prog_1_method_54_code
def yX4_grows : MethodName := ⟨RX4, "grows", "(II)I"⟩
abbrev cX4_loses : ByteArray := prog_1_method_55_code
def yX4_loses : MethodName := ⟨RX4, "loses", "(II)I"⟩
abbrev cX4_calms : ByteArray := prog_1_method_56_code
def yX4_calms : MethodName := ⟨RX4, "calms", "(I)I"⟩
abbrev cX4_burrs : ByteArray := prog_1_method_57_code
def yX4_burrs : MethodName := ⟨RX4, "burrs", "(II)I"⟩
def RX5 : String := "ShornYearModel"
def TX5 : u_T := fun k => match k with
  | 0 => ("ShornYearModel", "s", "[I", true)
  | 1 => ("ShornYearModel", "keptS", "[I", true)
  | 2 => ("ShornYearModel", "other", "[I", true)
  | 3 => ("ShornYearModel", "aside", "[I", true)
  | 4 => ("ShornYearModel", "statuses", "[I", true)
  | 5 => ("ShornYearModel", "isKept", "Z", false)
  | 6 => ("ShornYearModel", "tape", "[I", true)
  | 7 => ("ShornYearModel", "taped", "I", false)
  | 8 => ("ShornYearModel", "from", "I", false)
  | 9 => ("ShornYearModel", "to", "I", false)
  | 10 => ("ShornYearModel", "value", "I", false)
  | 11 => ("ShornYearModel", "isWrong", "Z", false)
  | 12 => ("ShornYearModel", "bitsOf", "[I", true)
  | 13 => ("ShornYearModel", "sizeOf", "[I", true)
  | 14 => ("ShornYearModel", "numbers", "[J", true)
  | _ => ("ShornYearModel", "moved", "[J", true)
def tyX5 : Nat → FieldType := fun k => match k with
  | 0 => .array .int
  | 1 => .array .int
  | 2 => .array .int
  | 3 => .array .int
  | 4 => .array .int
  | 5 => .boolean
  | 6 => .array .int
  | 7 => .int
  | 8 => .int
  | 9 => .int
  | 10 => .int
  | 11 => .boolean
  | 12 => .array .int
  | 13 => .array .int
  | 14 => .array .long
  | _ => .array .long
abbrev wsX50 : List Cond := u_ws RX5 TX5 16
theorem nmX5 : ∀ a, a < 16 → ∀ b, b < 16 → a ≠ b → (TX5 a).2.1 ≠ (TX5 b).2.1 := by decide +kernel
theorem tyX5_ok : ∀ k, k < 16 → parseFieldDescriptor (TX5 k).2.2.1 = some (tyX5 k) := by decide +kernel
abbrev cX5_init : ByteArray := prog_7_method_1_code
def yX5_init : MethodName := ⟨RX5, "<init>", "()V"⟩
abbrev cX5_in : ByteArray := prog_7_method_2_code
def yX5_in : MethodName := ⟨RX5, "in", "(JJJ)Z"⟩
abbrev cX5_finds : ByteArray := prog_7_method_3_code
def yX5_finds : MethodName := ⟨RX5, "finds", "(I)I"⟩
abbrev cX5_saves : ByteArray := prog_7_method_4_code
def yX5_saves : MethodName := ⟨RX5, "saves", "()V"⟩
abbrev cX5_putsBack : ByteArray := prog_7_method_5_code
def yX5_putsBack : MethodName := ⟨RX5, "putsBack", "()V"⟩
abbrev cX5_laysAside : ByteArray := prog_7_method_6_code
def yX5_laysAside : MethodName := ⟨RX5, "laysAside", "()V"⟩
abbrev cX5_takesBack : ByteArray := prog_7_method_7_code
def yX5_takesBack : MethodName := ⟨RX5, "takesBack", "(I)I"⟩
abbrev cX5_becomes : ByteArray := prog_7_method_8_code
def yX5_becomes : MethodName := ⟨RX5, "becomes", "(II)I"⟩
abbrev cX5_spot : ByteArray := prog_7_method_9_code
def yX5_spot : MethodName := ⟨RX5, "spot", "(II)I"⟩
abbrev cX5_coatSpot : ByteArray := prog_7_method_10_code
def yX5_coatSpot : MethodName := ⟨RX5, "coatSpot", "(II)I"⟩
abbrev cX5_its : ByteArray := prog_7_method_11_code
def yX5_its : MethodName := ⟨RX5, "its", "(II)I"⟩
abbrev cX5_isEwe : ByteArray := prog_7_method_12_code
def yX5_isEwe : MethodName := ⟨RX5, "isEwe", "(I)Z"⟩
abbrev cX5_isMonth : ByteArray := prog_7_method_13_code
def yX5_isMonth : MethodName := ⟨RX5, "isMonth", "(I)Z"⟩
abbrev cX5_isCoat : ByteArray := prog_7_method_14_code
def yX5_isCoat : MethodName := ⟨RX5, "isCoat", "(I)Z"⟩
abbrev cX5_isKind : ByteArray := prog_7_method_15_code
def yX5_isKind : MethodName := ⟨RX5, "isKind", "(I)Z"⟩
abbrev cX5_isWeather : ByteArray := prog_7_method_16_code
def yX5_isWeather : MethodName := ⟨RX5, "isWeather", "(J)Z"⟩
abbrev cX5_heldTo : ByteArray := prog_7_method_17_code
def yX5_heldTo : MethodName := ⟨RX5, "heldTo", "(II)I"⟩
abbrev cX5_twelve : ByteArray := prog_7_method_18_code
def yX5_twelve : MethodName := ⟨RX5, "twelve", "(I)I"⟩
abbrev cX5_woolOf : ByteArray := prog_7_method_19_code
def yX5_woolOf : MethodName := ⟨RX5, "woolOf", "(I)I"⟩
abbrev cX5_fleeces : ByteArray := prog_7_method_20_code
def yX5_fleeces : MethodName := ⟨RX5, "fleeces", "()I"⟩
abbrev cX5_weather : ByteArray := prog_7_method_21_code
def yX5_weather : MethodName := ⟨RX5, "weather", "(II)I"⟩
abbrev cX5_monthOf : ByteArray := prog_7_method_22_code
def yX5_monthOf : MethodName := ⟨RX5, "monthOf", "(II)I"⟩
abbrev cX5_ofYear : ByteArray := prog_7_method_23_code
def yX5_ofYear : MethodName := ⟨RX5, "ofYear", "()I"⟩
abbrev cX5_now : ByteArray := prog_7_method_24_code
def yX5_now : MethodName := ⟨RX5, "now", "(I)I"⟩
abbrev cX5_growsIn : ByteArray := prog_7_method_25_code
def yX5_growsIn : MethodName := ⟨RX5, "growsIn", "(II)I"⟩
abbrev cX5_losesOf : ByteArray := prog_7_method_26_code
def yX5_losesOf : MethodName := ⟨RX5, "losesOf", "(I)I"⟩
abbrev cX5_calmsOf : ByteArray := prog_7_method_27_code
def yX5_calmsOf : MethodName := ⟨RX5, "calmsOf", "(I)I"⟩
abbrev cX5_burrsIn : ByteArray := prog_7_method_28_code
def yX5_burrsIn : MethodName := ⟨RX5, "burrsIn", "(II)I"⟩
abbrev cX5_adds : ByteArray := prog_7_method_29_code
def yX5_adds : MethodName := ⟨RX5, "adds", "(I)I"⟩
abbrev cX5_ewe : ByteArray := prog_7_method_30_code
def yX5_ewe : MethodName := ⟨RX5, "ewe", "(I)I"⟩
abbrev cX5_of : ByteArray := prog_7_method_31_code
def yX5_of : MethodName := ⟨RX5, "of", "(II)I"⟩
abbrev cX5_fleece : ByteArray := prog_7_method_32_code
def yX5_fleece : MethodName := ⟨RX5, "fleece", "(II)I"⟩
abbrev cX5_can : ByteArray := prog_7_method_33_code
def yX5_can : MethodName := ⟨RX5, "can", "(III)I"⟩
abbrev cX5_scare : ByteArray := prog_7_method_34_code
def yX5_scare : MethodName := ⟨RX5, "scare", "(II)I"⟩
abbrev cX5_turn : ByteArray := prog_7_method_35_code
def yX5_turn : MethodName := ⟨RX5, "turn", "(II)I"⟩
abbrev cX5_isUnder : ByteArray := prog_7_method_36_code
def yX5_isUnder : MethodName := ⟨RX5, "isUnder", "(II)Z"⟩
abbrev cX5_as : ByteArray := prog_7_method_37_code
def yX5_as : MethodName := ⟨RX5, "as", "(II)I"⟩
abbrev cX5_warmthOf : ByteArray := prog_7_method_38_code
def yX5_warmthOf : MethodName := ⟨RX5, "warmthOf", "(I)I"⟩
abbrev cX5_harshOf : ByteArray := prog_7_method_39_code
def yX5_harshOf : MethodName := ⟨RX5, "harshOf", "(I)I"⟩
abbrev cX5_monthsIn : ByteArray := prog_7_method_40_code
def yX5_monthsIn : MethodName := ⟨RX5, "monthsIn", "(I)I"⟩
abbrev cX5_cuts : ByteArray := prog_7_method_41_code
def yX5_cuts : MethodName := ⟨RX5, "cuts", "(III)I"⟩
abbrev cX5_cut : ByteArray := prog_7_method_42_code
def yX5_cut : MethodName := ⟨RX5, "cut", "(III)I"⟩
abbrev cX5_coatOf : ByteArray := prog_7_method_43_code
def yX5_coatOf : MethodName := ⟨RX5, "coatOf", "(II)I"⟩
abbrev cX5_unpick : ByteArray := prog_7_method_44_code
def yX5_unpick : MethodName := ⟨RX5, "unpick", "(I)I"⟩
abbrev cX5_isShorn : ByteArray := prog_7_method_45_code
def yX5_isShorn : MethodName := ⟨RX5, "isShorn", "(I)V"⟩
abbrev cX5_month : ByteArray := prog_7_method_46_code
def yX5_month : MethodName := ⟨RX5, "month", "()V"⟩
abbrev cX5_monthsGo : ByteArray := prog_7_method_47_code
def yX5_monthsGo : MethodName := ⟨RX5, "monthsGo", "(I)V"⟩
abbrev cX5_months : ByteArray := prog_7_method_48_code
def yX5_months : MethodName := ⟨RX5, "months", "(I)I"⟩
abbrev cX5_isAhead : ByteArray := prog_7_method_49_code
def yX5_isAhead : MethodName := ⟨RX5, "isAhead", "(I)Z"⟩
abbrev cX5_behind : ByteArray := prog_7_method_50_code
def yX5_behind : MethodName := ⟨RX5, "behind", "(II)I"⟩
abbrev cX5_twelveBehind : ByteArray := prog_7_method_51_code
def yX5_twelveBehind : MethodName := ⟨RX5, "twelveBehind", "(II)I"⟩
abbrev cX5_on : ByteArray := prog_7_method_52_code
def yX5_on : MethodName := ⟨RX5, "on", "(III)I"⟩
abbrev cX5_then : ByteArray := prog_7_method_53_code
def yX5_then : MethodName := ⟨RX5, "then", "(III)I"⟩
abbrev cX5_firstAs : ByteArray := prog_7_method_54_code
def yX5_firstAs : MethodName := ⟨RX5, "firstAs", "(III)I"⟩
abbrev cX5_enough : ByteArray := prog_7_method_55_code
def yX5_enough : MethodName := ⟨RX5, "enough", "(II)I"⟩
abbrev cX5_calm : ByteArray := prog_7_method_56_code
def yX5_calm : MethodName := ⟨RX5, "calm", "(I)I"⟩
abbrev cX5_isSoon : ByteArray := prog_7_method_57_code
def yX5_isSoon : MethodName := ⟨RX5, "isSoon", "(I)Z"⟩
abbrev cX5_kind : ByteArray := prog_7_method_58_code
def yX5_kind : MethodName := ⟨RX5, "kind", "(II)I"⟩
abbrev cX5_cold : ByteArray := prog_7_method_59_code
def yX5_cold : MethodName := ⟨RX5, "cold", "(III)I"⟩
abbrev cX5_best : ByteArray := prog_7_method_60_code
def yX5_best : MethodName := ⟨RX5, "best", "(II)I"⟩
abbrev cX5_bears : ByteArray := prog_7_method_61_code
def yX5_bears : MethodName := ⟨RX5, "bears", "(III)I"⟩
abbrev cX5_milder : ByteArray := prog_7_method_62_code
def yX5_milder : MethodName := ⟨RX5, "milder", "(I)I"⟩
abbrev cX5_warmest : ByteArray := prog_7_method_63_code
def yX5_warmest : MethodName := ⟨RX5, "warmest", "()I"⟩
abbrev cX5_feed : ByteArray := prog_7_method_64_code
def yX5_feed : MethodName := ⟨RX5, "feed", "(II)I"⟩
abbrev cX5_wipe : ByteArray := prog_7_method_65_code
def yX5_wipe : MethodName := ⟨RX5, "wipe", "()I"⟩
abbrev cX5_byteAt : ByteArray := prog_7_method_66_code
def yX5_byteAt : MethodName := ⟨RX5, "byteAt", "(I)I"⟩
abbrev cX5_isLetter : ByteArray := prog_7_method_67_code
def yX5_isLetter : MethodName := ⟨RX5, "isLetter", "(I)Z"⟩
abbrev cX5_isDigit : ByteArray := prog_7_method_68_code
def yX5_isDigit : MethodName := ⟨RX5, "isDigit", "(I)Z"⟩
abbrev cX5_token : ByteArray := prog_7_method_69_code
def yX5_token : MethodName := ⟨RX5, "token", "()V"⟩
abbrev cX5_must : ByteArray := prog_7_method_70_code
def yX5_must : MethodName := ⟨RX5, "must", "(Z)V"⟩
abbrev cX5_word : ByteArray := prog_7_method_71_code
def yX5_word : MethodName := ⟨RX5, "word", "()J"⟩
abbrev cX5_number : ByteArray := prog_7_method_72_code
def yX5_number : MethodName := ⟨RX5, "number", "(II)V"⟩
abbrev cX5_kindHere : ByteArray := prog_7_method_73_code
def yX5_kindHere : MethodName := ⟨RX5, "kindHere", "()I"⟩
abbrev cX5_eweItem : ByteArray := prog_7_method_74_code
def yX5_eweItem : MethodName := ⟨RX5, "eweItem", "(I)V"⟩
abbrev cX5_weatherItem : ByteArray := prog_7_method_75_code
def yX5_weatherItem : MethodName := ⟨RX5, "weatherItem", "(I)V"⟩
abbrev cX5_cutItem : ByteArray := prog_7_method_76_code
def yX5_cutItem : MethodName := ⟨RX5, "cutItem", "()V"⟩
abbrev cX5_storeItem : ByteArray := prog_7_method_77_code
def yX5_storeItem : MethodName := ⟨RX5, "storeItem", "()V"⟩
abbrev cX5_item : ByteArray := prog_7_method_78_code
def yX5_item : MethodName := ⟨RX5, "item", "()V"⟩
abbrev cX5_parish : ByteArray := prog_7_method_79_code
def yX5_parish : MethodName := ⟨RX5, "parish", "()I"⟩
abbrev cX5_isOne : ByteArray := prog_7_method_80_code
def yX5_isOne : MethodName := ⟨RX5, "isOne", "(I)Z"⟩
abbrev cX5_sheet : ByteArray := prog_7_method_81_code
def yX5_sheet : MethodName := ⟨RX5, "sheet", "(III)I"⟩
abbrev cX5_narrowed : ByteArray := prog_7_method_82_code
def yX5_narrowed : MethodName := ⟨RX5, "narrowed", "(IJ)J"⟩
abbrev cX5_wrongSheet : ByteArray := prog_7_method_83_code
def yX5_wrongSheet : MethodName := ⟨RX5, "wrongSheet", "(I)I"⟩
abbrev cX5_write : ByteArray := prog_7_method_84_code
def yX5_write : MethodName := ⟨RX5, "write", "(IIJ)J"⟩
abbrev cX5_copy : ByteArray := prog_7_method_85_code
def yX5_copy : MethodName := ⟨RX5, "copy", "(IIIII)I"⟩
abbrev cX5_lays : ByteArray := prog_7_method_86_code
def yX5_lays : MethodName := ⟨RX5, "lays", "(I)I"⟩
abbrev cX5_book : ByteArray := prog_7_method_87_code
def yX5_book : MethodName := ⟨RX5, "book", "(II)I"⟩
abbrev cX5_isBook : ByteArray := prog_7_method_88_code
def yX5_isBook : MethodName := ⟨RX5, "isBook", "(II)Z"⟩
abbrev cX5_read : ByteArray := prog_7_method_89_code
def yX5_read : MethodName := ⟨RX5, "read", "(II)I"⟩
abbrev cX5_image : ByteArray := prog_7_method_90_code
def yX5_image : MethodName := ⟨RX5, "image", "()I"⟩
abbrev cX5_undo : ByteArray := prog_7_method_91_code
def yX5_undo : MethodName := ⟨RX5, "undo", "()I"⟩
abbrev cX5_tear : ByteArray := prog_7_method_92_code
def yX5_tear : MethodName := ⟨RX5, "tear", "()I"⟩
abbrev cX5_coatsMade : ByteArray := prog_7_method_93_code
def yX5_coatsMade : MethodName := ⟨RX5, "coatsMade", "()I"⟩
abbrev cX5_frights : ByteArray := prog_7_method_94_code
def yX5_frights : MethodName := ⟨RX5, "frights", "()I"⟩
abbrev cX5_count : ByteArray := prog_7_method_95_code
def yX5_count : MethodName := ⟨RX5, "count", "(I)I"⟩
abbrev cX5_status : ByteArray := prog_7_method_96_code
def yX5_status : MethodName := ⟨RX5, "status", "(I)I"⟩
def RJx145de : String := "java/io/Serializable"
def TJx145de : u_T := fun k => match k with
  | _ => ("", "", "", false)
def tyJx145de : Nat → FieldType := fun k => match k with
  | _ => .int
abbrev wsJx145de0 : List Cond := u_ws RJx145de TJx145de 0
theorem nmJx145de : ∀ a, a < 0 → ∀ b, b < 0 → a ≠ b → (TJx145de a).2.1 ≠ (TJx145de b).2.1 := by decide +kernel
theorem tyJx145de_ok : ∀ k, k < 0 → parseFieldDescriptor (TJx145de k).2.2.1 = some (tyJx145de k) := by decide +kernel
def RJx9f9b0 : String := "java/lang/CharSequence"
def TJx9f9b0 : u_T := fun k => match k with
  | _ => ("", "", "", false)
def tyJx9f9b0 : Nat → FieldType := fun k => match k with
  | _ => .int
abbrev wsJx9f9b00 : List Cond := u_ws RJx9f9b0 TJx9f9b0 0
theorem nmJx9f9b0 : ∀ a, a < 0 → ∀ b, b < 0 → a ≠ b → (TJx9f9b0 a).2.1 ≠ (TJx9f9b0 b).2.1 := by decide +kernel
theorem tyJx9f9b0_ok : ∀ k, k < 0 → parseFieldDescriptor (TJx9f9b0 k).2.2.1 = some (tyJx9f9b0 k) := by decide +kernel
def RJxb160c : String := "java/lang/Comparable"
def TJxb160c : u_T := fun k => match k with
  | _ => ("", "", "", false)
def tyJxb160c : Nat → FieldType := fun k => match k with
  | _ => .int
abbrev wsJxb160c0 : List Cond := u_ws RJxb160c TJxb160c 0
theorem nmJxb160c : ∀ a, a < 0 → ∀ b, b < 0 → a ≠ b → (TJxb160c a).2.1 ≠ (TJxb160c b).2.1 := by decide +kernel
theorem tyJxb160c_ok : ∀ k, k < 0 → parseFieldDescriptor (TJxb160c k).2.2.1 = some (tyJxb160c k) := by decide +kernel
def RJ9 : String := "java/lang/Math"
def TJ9 : u_T := fun k => match k with
  | _ => ("", "", "", false)
def tyJ9 : Nat → FieldType := fun k => match k with
  | _ => .int
abbrev wsJ90 : List Cond := u_ws RJ9 TJ9 0
theorem nmJ9 : ∀ a, a < 0 → ∀ b, b < 0 → a ≠ b → (TJ9 a).2.1 ≠ (TJ9 b).2.1 := by decide +kernel
theorem tyJ9_ok : ∀ k, k < 0 → parseFieldDescriptor (TJ9 k).2.2.1 = some (tyJ9 k) := by decide +kernel
abbrev cJ9_max_7cf53 : ByteArray := prog_8_method_65_code
def yJ9_max_7cf53 : MethodName := ⟨RJ9, "max", "(II)I"⟩
abbrev cJ9_min_7cf53 : ByteArray := prog_8_method_69_code
def yJ9_min_7cf53 : MethodName := ⟨RJ9, "min", "(II)I"⟩
def RJ0 : String := "java/lang/String"
def TJ0 : u_T := fun k => match k with
  | _ => ("", "", "", false)
def tyJ0 : Nat → FieldType := fun k => match k with
  | _ => .int
abbrev wsJ00 : List Cond := u_ws RJ0 TJ0 0
theorem nmJ0 : ∀ a, a < 0 → ∀ b, b < 0 → a ≠ b → (TJ0 a).2.1 ≠ (TJ0 b).2.1 := by decide +kernel
theorem tyJ0_ok : ∀ k, k < 0 → parseFieldDescriptor (TJ0 k).2.2.1 = some (tyJ0 k) := by decide +kernel
abbrev cJ0_length_8abf5 : ByteArray := prog_9_method_54_code
def yJ0_length_8abf5 : MethodName := ⟨RJ0, "length", "()I"⟩
abbrev cJ0_charAt_5068e : ByteArray := prog_9_method_56_code
def yJ0_charAt_5068e : MethodName := ⟨RJ0, "charAt", "(I)C"⟩
abbrev cJ0_coder_7d493 : ByteArray := prog_9_method_152_code
def yJ0_coder_7d493 : MethodName := ⟨RJ0, "coder", "()B"⟩
abbrev cJ0_isLatin1_aae02 : ByteArray := prog_9_method_154_code
def yJ0_isLatin1_aae02 : MethodName := ⟨RJ0, "isLatin1", "()Z"⟩
abbrev cJ0_checkIndex_df160 : ByteArray := prog_9_method_155_code
def yJ0_checkIndex_df160 : MethodName := ⟨RJ0, "checkIndex", "(II)V"⟩
def RJ1 : String := "java/lang/StringLatin1"
def TJ1 : u_T := fun k => match k with
  | _ => ("", "", "", false)
def tyJ1 : Nat → FieldType := fun k => match k with
  | _ => .int
abbrev wsJ10 : List Cond := u_ws RJ1 TJ1 0
theorem nmJ1 : ∀ a, a < 0 → ∀ b, b < 0 → a ≠ b → (TJ1 a).2.1 ≠ (TJ1 b).2.1 := by decide +kernel
theorem tyJ1_ok : ∀ k, k < 0 → parseFieldDescriptor (TJ1 k).2.2.1 = some (tyJ1 k) := by decide +kernel
abbrev cJ1_charAt_3b067 : ByteArray := prog_10_method_2_code
def yJ1_charAt_3b067 : MethodName := ⟨RJ1, "charAt", "([BI)C"⟩
def RJ2 : String := "java/lang/StringUTF16"
def TJ2 : u_T := fun k => match k with
  | _ => ("", "", "", false)
def tyJ2 : Nat → FieldType := fun k => match k with
  | _ => .int
abbrev wsJ20 : List Cond := u_ws RJ2 TJ2 0
theorem nmJ2 : ∀ a, a < 0 → ∀ b, b < 0 → a ≠ b → (TJ2 a).2.1 ≠ (TJ2 b).2.1 := by decide +kernel
theorem tyJ2_ok : ∀ k, k < 0 → parseFieldDescriptor (TJ2 k).2.2.1 = some (tyJ2 k) := by decide +kernel
abbrev cJ2_getChar_3b067 : ByteArray := prog_11_method_5_code
def yJ2_getChar_3b067 : MethodName := ⟨RJ2, "getChar", "([BI)C"⟩
abbrev cJ2_length_9d52b : ByteArray := prog_11_method_6_code
def yJ2_length_9d52b : MethodName := ⟨RJ2, "length", "([B)I"⟩
abbrev cJ2_charAt_3b067 : ByteArray := prog_11_method_83_code
def yJ2_charAt_3b067 : MethodName := ⟨RJ2, "charAt", "([BI)C"⟩
abbrev cJ2_checkIndex_2214a : ByteArray := prog_11_method_91_code
def yJ2_checkIndex_2214a : MethodName := ⟨RJ2, "checkIndex", "(I[B)V"⟩
def RJ10 : String := "java/lang/System"
def TJ10 : u_T := fun k => match k with
  | _ => ("", "", "", false)
def tyJ10 : Nat → FieldType := fun k => match k with
  | _ => .int
abbrev wsJ100 : List Cond := u_ws RJ10 TJ10 0
theorem nmJ10 : ∀ a, a < 0 → ∀ b, b < 0 → a ≠ b → (TJ10 a).2.1 ≠ (TJ10 b).2.1 := by decide +kernel
theorem tyJ10_ok : ∀ k, k < 0 → parseFieldDescriptor (TJ10 k).2.2.1 = some (tyJ10 k) := by decide +kernel
def RJxfd54e : String := "java/lang/constant/Constable"
def TJxfd54e : u_T := fun k => match k with
  | _ => ("", "", "", false)
def tyJxfd54e : Nat → FieldType := fun k => match k with
  | _ => .int
abbrev wsJxfd54e0 : List Cond := u_ws RJxfd54e TJxfd54e 0
theorem nmJxfd54e : ∀ a, a < 0 → ∀ b, b < 0 → a ≠ b → (TJxfd54e a).2.1 ≠ (TJxfd54e b).2.1 := by decide +kernel
theorem tyJxfd54e_ok : ∀ k, k < 0 → parseFieldDescriptor (TJxfd54e k).2.2.1 = some (tyJxfd54e k) := by decide +kernel
def RJx3cf43 : String := "java/lang/constant/ConstantDesc"
def TJx3cf43 : u_T := fun k => match k with
  | _ => ("", "", "", false)
def tyJx3cf43 : Nat → FieldType := fun k => match k with
  | _ => .int
abbrev wsJx3cf430 : List Cond := u_ws RJx3cf43 TJx3cf43 0
theorem nmJx3cf43 : ∀ a, a < 0 → ∀ b, b < 0 → a ≠ b → (TJx3cf43 a).2.1 ≠ (TJx3cf43 b).2.1 := by decide +kernel
theorem tyJx3cf43_ok : ∀ k, k < 0 → parseFieldDescriptor (TJx3cf43 k).2.2.1 = some (tyJx3cf43 k) := by decide +kernel
def RJ7 : String := "java/util/Arrays"
def TJ7 : u_T := fun k => match k with
  | _ => ("", "", "", false)
def tyJ7 : Nat → FieldType := fun k => match k with
  | _ => .int
abbrev wsJ70 : List Cond := u_ws RJ7 TJ7 0
theorem nmJ7 : ∀ a, a < 0 → ∀ b, b < 0 → a ≠ b → (TJ7 a).2.1 ≠ (TJ7 b).2.1 := by decide +kernel
theorem tyJ7_ok : ∀ k, k < 0 → parseFieldDescriptor (TJ7 k).2.2.1 = some (tyJ7 k) := by decide +kernel
abbrev cJ7_fill_d0a16 : ByteArray := prog_13_method_101_code
def yJ7_fill_d0a16 : MethodName := ⟨RJ7, "fill", "([JJ)V"⟩
abbrev cJ7_fill_53178 : ByteArray := prog_13_method_103_code
def yJ7_fill_53178 : MethodName := ⟨RJ7, "fill", "([II)V"⟩
def RJ3 : String := "jdk/internal/util/Preconditions"
def TJ3 : u_T := fun k => match k with
  | _ => ("", "", "", false)
def tyJ3 : Nat → FieldType := fun k => match k with
  | _ => .int
abbrev wsJ30 : List Cond := u_ws RJ3 TJ3 0
theorem nmJ3 : ∀ a, a < 0 → ∀ b, b < 0 → a ≠ b → (TJ3 a).2.1 ≠ (TJ3 b).2.1 := by decide +kernel
theorem tyJ3_ok : ∀ k, k < 0 → parseFieldDescriptor (TJ3 k).2.2.1 = some (tyJ3 k) := by decide +kernel
abbrev cJ3_checkIndex_8e157 : ByteArray := prog_14_method_11_code
def yJ3_checkIndex_8e157 : MethodName := ⟨RJ3, "checkIndex", "(IILjava/util/function/BiFunction;)I"⟩
def RL : String := "ShornYearLaw"
abbrev cL_law : ByteArray := code
def yL_law : MethodName := ⟨RL, "law", "([I)Z"⟩
abbrev vwCl : List vw_C := [(RX0, TX0, 4), (RX1, TX1, 7), (RX2, TX2, 3), (RX3, TX3, 6), (RX4, TX4, 8), (RX5, TX5, 16)]
end
section
theorem dX0_init_0 : decode cX0_init 0 = .ok (.aload_n 0, 1) := by decide +kernel
theorem dX0_init_1 : decode cX0_init 1 = .ok (.invokespecial 3, 3) := by decide +kernel
theorem dX0_init_4 : decode cX0_init 4 = .ok (.aload_n 0, 1) := by decide +kernel
theorem dX0_init_5 : decode cX0_init 5 = .ok (.bipush 12, 2) := by decide +kernel
theorem dX0_init_7 : decode cX0_init 7 = .ok (.newarray .int, 2) := by decide +kernel
theorem dX0_init_9 : decode cX0_init 9 = .ok (.putfield 9, 3) := by decide +kernel
theorem dX0_init_12 : decode cX0_init 12 = .ok (.return_, 1) := by decide +kernel
theorem dX0_become_0 : decode cX0_become 0 = .ok (.aload_n 0, 1) := by decide +kernel
theorem dX0_become_1 : decode cX0_become 1 = .ok (.aload_n 1, 1) := by decide +kernel
theorem dX0_become_2 : decode cX0_become 2 = .ok (.getfield 15, 3) := by decide +kernel
theorem dX0_become_5 : decode cX0_become 5 = .ok (.putfield 15, 3) := by decide +kernel
theorem dX0_become_8 : decode cX0_become 8 = .ok (.aload_n 0, 1) := by decide +kernel
theorem dX0_become_9 : decode cX0_become 9 = .ok (.aload_n 1, 1) := by decide +kernel
theorem dX0_become_10 : decode cX0_become 10 = .ok (.getfield 19, 3) := by decide +kernel
theorem dX0_become_13 : decode cX0_become 13 = .ok (.putfield 19, 3) := by decide +kernel
theorem dX0_become_16 : decode cX0_become 16 = .ok (.aload_n 0, 1) := by decide +kernel
theorem dX0_become_17 : decode cX0_become 17 = .ok (.aload_n 1, 1) := by decide +kernel
theorem dX0_become_18 : decode cX0_become 18 = .ok (.getfield 22, 3) := by decide +kernel
theorem dX0_become_21 : decode cX0_become 21 = .ok (.putfield 22, 3) := by decide +kernel
theorem dX0_become_24 : decode cX0_become 24 = .ok (.aload_n 1, 1) := by decide +kernel
theorem dX0_become_25 : decode cX0_become 25 = .ok (.getfield 9, 3) := by decide +kernel
theorem dX0_become_28 : decode cX0_become 28 = .ok (.iconst 0, 1) := by decide +kernel
theorem dX0_become_29 : decode cX0_become 29 = .ok (.aload_n 0, 1) := by decide +kernel
theorem dX0_become_30 : decode cX0_become 30 = .ok (.getfield 9, 3) := by decide +kernel
theorem dX0_become_33 : decode cX0_become 33 = .ok (.iconst 0, 1) := by decide +kernel
theorem dX0_become_34 : decode cX0_become 34 = .ok (.bipush 12, 2) := by decide +kernel
theorem dX0_become_36 : decode cX0_become 36 = .ok (.invokestatic 25, 3) := by decide +kernel
theorem dX0_become_39 : decode cX0_become 39 = .ok (.return_, 1) := by decide +kernel
theorem dX0_grow_0 : decode cX0_grow 0 = .ok (.aload_n 0, 1) := by decide +kernel
theorem dX0_grow_1 : decode cX0_grow 1 = .ok (.getfield 15, 3) := by decide +kernel
theorem dX0_grow_4 : decode cX0_grow 4 = .ok (.iload_n 2, 1) := by decide +kernel
theorem dX0_grow_5 : decode cX0_grow 5 = .ok (.invokestatic 31, 3) := by decide +kernel
theorem dX0_grow_8 : decode cX0_grow 8 = .ok (.istore_n 3, 1) := by decide +kernel
theorem dX0_grow_9 : decode cX0_grow 9 = .ok (.iload_n 3, 1) := by decide +kernel
theorem dX0_grow_10 : decode cX0_grow 10 = .ok (.iload_n 3, 1) := by decide +kernel
theorem dX0_grow_11 : decode cX0_grow 11 = .ok (.aload_n 0, 1) := by decide +kernel
theorem dX0_grow_12 : decode cX0_grow 12 = .ok (.getfield 15, 3) := by decide +kernel
theorem dX0_grow_15 : decode cX0_grow 15 = .ok (.aload_n 0, 1) := by decide +kernel
theorem dX0_grow_16 : decode cX0_grow 16 = .ok (.getfield 19, 3) := by decide +kernel
theorem dX0_grow_19 : decode cX0_grow 19 = .ok (.invokestatic 35, 3) := by decide +kernel
theorem dX0_grow_22 : decode cX0_grow 22 = .ok (.invokestatic 38, 3) := by decide +kernel
theorem dX0_grow_25 : decode cX0_grow 25 = .ok (.isub, 1) := by decide +kernel
theorem dX0_grow_26 : decode cX0_grow 26 = .ok (.istore 4, 2) := by decide +kernel
theorem dX0_grow_28 : decode cX0_grow 28 = .ok (.aload_n 0, 1) := by decide +kernel
theorem dX0_grow_29 : decode cX0_grow 29 = .ok (.dup, 1) := by decide +kernel
theorem dX0_grow_30 : decode cX0_grow 30 = .ok (.getfield 22, 3) := by decide +kernel
theorem dX0_grow_33 : decode cX0_grow 33 = .ok (.iload 4, 2) := by decide +kernel
theorem dX0_grow_35 : decode cX0_grow 35 = .ok (.aload_n 0, 1) := by decide +kernel
theorem dX0_grow_36 : decode cX0_grow 36 = .ok (.getfield 9, 3) := by decide +kernel
theorem dX0_grow_39 : decode cX0_grow 39 = .ok (.iload_n 1, 1) := by decide +kernel
theorem dX0_grow_40 : decode cX0_grow 40 = .ok (.iaload, 1) := by decide +kernel
theorem dX0_grow_41 : decode cX0_grow 41 = .ok (.isub, 1) := by decide +kernel
theorem dX0_grow_42 : decode cX0_grow 42 = .ok (.iadd, 1) := by decide +kernel
theorem dX0_grow_43 : decode cX0_grow 43 = .ok (.putfield 22, 3) := by decide +kernel
theorem dX0_grow_46 : decode cX0_grow 46 = .ok (.aload_n 0, 1) := by decide +kernel
theorem dX0_grow_47 : decode cX0_grow 47 = .ok (.getfield 9, 3) := by decide +kernel
theorem dX0_grow_50 : decode cX0_grow 50 = .ok (.iload_n 1, 1) := by decide +kernel
theorem dX0_grow_51 : decode cX0_grow 51 = .ok (.iload 4, 2) := by decide +kernel
theorem dX0_grow_53 : decode cX0_grow 53 = .ok (.iastore, 1) := by decide +kernel
theorem dX0_grow_54 : decode cX0_grow 54 = .ok (.aload_n 0, 1) := by decide +kernel
theorem dX0_grow_55 : decode cX0_grow 55 = .ok (.iconst 0, 1) := by decide +kernel
theorem dX0_grow_56 : decode cX0_grow 56 = .ok (.aload_n 0, 1) := by decide +kernel
theorem dX0_grow_57 : decode cX0_grow 57 = .ok (.getfield 19, 3) := by decide +kernel
theorem dX0_grow_60 : decode cX0_grow 60 = .ok (.aload_n 0, 1) := by decide +kernel
theorem dX0_grow_61 : decode cX0_grow 61 = .ok (.getfield 15, 3) := by decide +kernel
theorem dX0_grow_64 : decode cX0_grow 64 = .ok (.invokestatic 43, 3) := by decide +kernel
theorem dX0_grow_67 : decode cX0_grow 67 = .ok (.isub, 1) := by decide +kernel
theorem dX0_grow_68 : decode cX0_grow 68 = .ok (.invokestatic 47, 3) := by decide +kernel
theorem dX0_grow_71 : decode cX0_grow 71 = .ok (.putfield 19, 3) := by decide +kernel
theorem dX0_grow_74 : decode cX0_grow 74 = .ok (.return_, 1) := by decide +kernel
theorem dX0_bare_0 : decode cX0_bare 0 = .ok (.aload_n 0, 1) := by decide +kernel
theorem dX0_bare_1 : decode cX0_bare 1 = .ok (.iconst 0, 1) := by decide +kernel
theorem dX0_bare_2 : decode cX0_bare 2 = .ok (.putfield 22, 3) := by decide +kernel
theorem dX0_bare_5 : decode cX0_bare 5 = .ok (.aload_n 0, 1) := by decide +kernel
theorem dX0_bare_6 : decode cX0_bare 6 = .ok (.getfield 9, 3) := by decide +kernel
theorem dX0_bare_9 : decode cX0_bare 9 = .ok (.iconst 0, 1) := by decide +kernel
theorem dX0_bare_10 : decode cX0_bare 10 = .ok (.invokestatic 50, 3) := by decide +kernel
theorem dX0_bare_13 : decode cX0_bare 13 = .ok (.return_, 1) := by decide +kernel
theorem dX1_init_0 : decode cX1_init 0 = .ok (.aload_n 0, 1) := by decide +kernel
theorem dX1_init_1 : decode cX1_init 1 = .ok (.invokespecial 3, 3) := by decide +kernel
theorem dX1_init_4 : decode cX1_init 4 = .ok (.aload_n 0, 1) := by decide +kernel
theorem dX1_init_5 : decode cX1_init 5 = .ok (.bipush 12, 2) := by decide +kernel
theorem dX1_init_7 : decode cX1_init 7 = .ok (.newarray .int, 2) := by decide +kernel
theorem dX1_init_9 : decode cX1_init 9 = .ok (.putfield 9, 3) := by decide +kernel
theorem dX1_init_12 : decode cX1_init 12 = .ok (.aload_n 0, 1) := by decide +kernel
theorem dX1_init_13 : decode cX1_init 13 = .ok (.bipush 12, 2) := by decide +kernel
theorem dX1_init_15 : decode cX1_init 15 = .ok (.newarray .int, 2) := by decide +kernel
theorem dX1_init_17 : decode cX1_init 17 = .ok (.putfield 15, 3) := by decide +kernel
theorem dX1_init_20 : decode cX1_init 20 = .ok (.aload_n 0, 1) := by decide +kernel
theorem dX1_init_21 : decode cX1_init 21 = .ok (.bipush 12, 2) := by decide +kernel
theorem dX1_init_23 : decode cX1_init 23 = .ok (.newarray .int, 2) := by decide +kernel
theorem dX1_init_25 : decode cX1_init 25 = .ok (.putfield 18, 3) := by decide +kernel
theorem dX1_init_28 : decode cX1_init 28 = .ok (.aload_n 0, 1) := by decide +kernel
theorem dX1_init_29 : decode cX1_init 29 = .ok (.bipush 8, 2) := by decide +kernel
theorem dX1_init_31 : decode cX1_init 31 = .ok (.anewarray 21, 3) := by decide +kernel
theorem dX1_init_34 : decode cX1_init 34 = .ok (.putfield 23, 3) := by decide +kernel
theorem dX1_init_37 : decode cX1_init 37 = .ok (.aload_n 0, 1) := by decide +kernel
theorem dX1_init_38 : decode cX1_init 38 = .ok (.iconst 4, 1) := by decide +kernel
theorem dX1_init_39 : decode cX1_init 39 = .ok (.bipush 12, 2) := by decide +kernel
theorem dX1_init_41 : decode cX1_init 41 = .ok (.multianewarray 27 2, 4) := by decide +kernel
theorem dX1_init_45 : decode cX1_init 45 = .ok (.putfield 29, 3) := by decide +kernel
theorem dX1_init_48 : decode cX1_init 48 = .ok (.iconst 0, 1) := by decide +kernel
theorem dX1_init_49 : decode cX1_init 49 = .ok (.istore_n 1, 1) := by decide +kernel
theorem dX1_init_50 : decode cX1_init 50 = .ok (.iload_n 1, 1) := by decide +kernel
theorem dX1_init_51 : decode cX1_init 51 = .ok (.bipush 12, 2) := by decide +kernel
theorem dX1_init_53 : decode cX1_init 53 = .ok (.if_icmp .ge 25, 3) := by decide +kernel
theorem dX1_init_56 : decode cX1_init 56 = .ok (.aload_n 0, 1) := by decide +kernel
theorem dX1_init_57 : decode cX1_init 57 = .ok (.getfield 9, 3) := by decide +kernel
theorem dX1_init_60 : decode cX1_init 60 = .ok (.iload_n 1, 1) := by decide +kernel
theorem dX1_init_61 : decode cX1_init 61 = .ok (.bipush 7, 2) := by decide +kernel
theorem dX1_init_63 : decode cX1_init 63 = .ok (.iload_n 1, 1) := by decide +kernel
theorem dX1_init_64 : decode cX1_init 64 = .ok (.imul, 1) := by decide +kernel
theorem dX1_init_65 : decode cX1_init 65 = .ok (.bipush 25, 2) := by decide +kernel
theorem dX1_init_67 : decode cX1_init 67 = .ok (.irem, 1) := by decide +kernel
theorem dX1_init_68 : decode cX1_init 68 = .ok (.bipush 12, 2) := by decide +kernel
theorem dX1_init_70 : decode cX1_init 70 = .ok (.isub, 1) := by decide +kernel
theorem dX1_init_71 : decode cX1_init 71 = .ok (.iastore, 1) := by decide +kernel
theorem dX1_init_72 : decode cX1_init 72 = .ok (.iinc 1 1, 3) := by decide +kernel
theorem dX1_init_75 : decode cX1_init 75 = .ok (.goto (-25), 3) := by decide +kernel
theorem dX1_init_78 : decode cX1_init 78 = .ok (.iconst 0, 1) := by decide +kernel
theorem dX1_init_79 : decode cX1_init 79 = .ok (.istore_n 1, 1) := by decide +kernel
theorem dX1_init_80 : decode cX1_init 80 = .ok (.iload_n 1, 1) := by decide +kernel
theorem dX1_init_81 : decode cX1_init 81 = .ok (.bipush 8, 2) := by decide +kernel
theorem dX1_init_83 : decode cX1_init 83 = .ok (.if_icmp .ge 22, 3) := by decide +kernel
theorem dX1_init_86 : decode cX1_init 86 = .ok (.aload_n 0, 1) := by decide +kernel
theorem dX1_init_87 : decode cX1_init 87 = .ok (.getfield 23, 3) := by decide +kernel
theorem dX1_init_90 : decode cX1_init 90 = .ok (.iload_n 1, 1) := by decide +kernel
theorem dX1_init_91 : decode cX1_init 91 = .ok (.new 21, 3) := by decide +kernel
theorem dX1_init_94 : decode cX1_init 94 = .ok (.dup, 1) := by decide +kernel
theorem dX1_init_95 : decode cX1_init 95 = .ok (.invokespecial 32, 3) := by decide +kernel
theorem dX1_init_98 : decode cX1_init 98 = .ok (.aastore, 1) := by decide +kernel
theorem dX1_init_99 : decode cX1_init 99 = .ok (.iinc 1 1, 3) := by decide +kernel
theorem dX1_init_102 : decode cX1_init 102 = .ok (.goto (-22), 3) := by decide +kernel
theorem dX1_init_105 : decode cX1_init 105 = .ok (.return_, 1) := by decide +kernel
theorem dX1_become_0 : decode cX1_become 0 = .ok (.aload_n 0, 1) := by decide +kernel
theorem dX1_become_1 : decode cX1_become 1 = .ok (.aload_n 1, 1) := by decide +kernel
theorem dX1_become_2 : decode cX1_become 2 = .ok (.getfield 33, 3) := by decide +kernel
theorem dX1_become_5 : decode cX1_become 5 = .ok (.putfield 33, 3) := by decide +kernel
theorem dX1_become_8 : decode cX1_become 8 = .ok (.aload_n 0, 1) := by decide +kernel
theorem dX1_become_9 : decode cX1_become 9 = .ok (.aload_n 1, 1) := by decide +kernel
theorem dX1_become_10 : decode cX1_become 10 = .ok (.getfield 37, 3) := by decide +kernel
theorem dX1_become_13 : decode cX1_become 13 = .ok (.putfield 37, 3) := by decide +kernel
theorem dX1_become_16 : decode cX1_become 16 = .ok (.aload_n 1, 1) := by decide +kernel
theorem dX1_become_17 : decode cX1_become 17 = .ok (.getfield 9, 3) := by decide +kernel
theorem dX1_become_20 : decode cX1_become 20 = .ok (.iconst 0, 1) := by decide +kernel
theorem dX1_become_21 : decode cX1_become 21 = .ok (.aload_n 0, 1) := by decide +kernel
theorem dX1_become_22 : decode cX1_become 22 = .ok (.getfield 9, 3) := by decide +kernel
theorem dX1_become_25 : decode cX1_become 25 = .ok (.iconst 0, 1) := by decide +kernel
theorem dX1_become_26 : decode cX1_become 26 = .ok (.bipush 12, 2) := by decide +kernel
theorem dX1_become_28 : decode cX1_become 28 = .ok (.invokestatic 40, 3) := by decide +kernel
theorem dX1_become_31 : decode cX1_become 31 = .ok (.aload_n 1, 1) := by decide +kernel
theorem dX1_become_32 : decode cX1_become 32 = .ok (.getfield 15, 3) := by decide +kernel
theorem dX1_become_35 : decode cX1_become 35 = .ok (.iconst 0, 1) := by decide +kernel
theorem dX1_become_36 : decode cX1_become 36 = .ok (.aload_n 0, 1) := by decide +kernel
theorem dX1_become_37 : decode cX1_become 37 = .ok (.getfield 15, 3) := by decide +kernel
theorem dX1_become_40 : decode cX1_become 40 = .ok (.iconst 0, 1) := by decide +kernel
theorem dX1_become_41 : decode cX1_become 41 = .ok (.bipush 12, 2) := by decide +kernel
theorem dX1_become_43 : decode cX1_become 43 = .ok (.invokestatic 40, 3) := by decide +kernel
theorem dX1_become_46 : decode cX1_become 46 = .ok (.aload_n 1, 1) := by decide +kernel
theorem dX1_become_47 : decode cX1_become 47 = .ok (.getfield 18, 3) := by decide +kernel
theorem dX1_become_50 : decode cX1_become 50 = .ok (.iconst 0, 1) := by decide +kernel
theorem dX1_become_51 : decode cX1_become 51 = .ok (.aload_n 0, 1) := by decide +kernel
theorem dX1_become_52 : decode cX1_become 52 = .ok (.getfield 18, 3) := by decide +kernel
theorem dX1_become_55 : decode cX1_become 55 = .ok (.iconst 0, 1) := by decide +kernel
theorem dX1_become_56 : decode cX1_become 56 = .ok (.bipush 12, 2) := by decide +kernel
theorem dX1_become_58 : decode cX1_become 58 = .ok (.invokestatic 40, 3) := by decide +kernel
theorem dX1_become_61 : decode cX1_become 61 = .ok (.iconst 0, 1) := by decide +kernel
theorem dX1_become_62 : decode cX1_become 62 = .ok (.istore_n 2, 1) := by decide +kernel
theorem dX1_become_63 : decode cX1_become 63 = .ok (.iload_n 2, 1) := by decide +kernel
theorem dX1_become_64 : decode cX1_become 64 = .ok (.aload_n 0, 1) := by decide +kernel
theorem dX1_become_65 : decode cX1_become 65 = .ok (.getfield 37, 3) := by decide +kernel
theorem dX1_become_68 : decode cX1_become 68 = .ok (.if_icmp .ge 24, 3) := by decide +kernel
theorem dX1_become_71 : decode cX1_become 71 = .ok (.aload_n 0, 1) := by decide +kernel
theorem dX1_become_72 : decode cX1_become 72 = .ok (.getfield 23, 3) := by decide +kernel
theorem dX1_become_75 : decode cX1_become 75 = .ok (.iload_n 2, 1) := by decide +kernel
theorem dX1_become_76 : decode cX1_become 76 = .ok (.aaload, 1) := by decide +kernel
theorem dX1_become_77 : decode cX1_become 77 = .ok (.aload_n 1, 1) := by decide +kernel
theorem dX1_become_78 : decode cX1_become 78 = .ok (.getfield 23, 3) := by decide +kernel
theorem dX1_become_81 : decode cX1_become 81 = .ok (.iload_n 2, 1) := by decide +kernel
theorem dX1_become_82 : decode cX1_become 82 = .ok (.aaload, 1) := by decide +kernel
theorem dX1_become_83 : decode cX1_become 83 = .ok (.invokevirtual 46, 3) := by decide +kernel
theorem dX1_become_86 : decode cX1_become 86 = .ok (.iinc 2 1, 3) := by decide +kernel
theorem dX1_become_89 : decode cX1_become 89 = .ok (.goto (-26), 3) := by decide +kernel
theorem dX1_become_92 : decode cX1_become 92 = .ok (.iconst 0, 1) := by decide +kernel
theorem dX1_become_93 : decode cX1_become 93 = .ok (.istore_n 2, 1) := by decide +kernel
theorem dX1_become_94 : decode cX1_become 94 = .ok (.iload_n 2, 1) := by decide +kernel
theorem dX1_become_95 : decode cX1_become 95 = .ok (.iconst 4, 1) := by decide +kernel
theorem dX1_become_96 : decode cX1_become 96 = .ok (.if_icmp .ge 28, 3) := by decide +kernel
theorem dX1_become_99 : decode cX1_become 99 = .ok (.aload_n 1, 1) := by decide +kernel
theorem dX1_become_100 : decode cX1_become 100 = .ok (.getfield 29, 3) := by decide +kernel
theorem dX1_become_103 : decode cX1_become 103 = .ok (.iload_n 2, 1) := by decide +kernel
theorem dX1_become_104 : decode cX1_become 104 = .ok (.aaload, 1) := by decide +kernel
theorem dX1_become_105 : decode cX1_become 105 = .ok (.iconst 0, 1) := by decide +kernel
theorem dX1_become_106 : decode cX1_become 106 = .ok (.aload_n 0, 1) := by decide +kernel
theorem dX1_become_107 : decode cX1_become 107 = .ok (.getfield 29, 3) := by decide +kernel
theorem dX1_become_110 : decode cX1_become 110 = .ok (.iload_n 2, 1) := by decide +kernel
theorem dX1_become_111 : decode cX1_become 111 = .ok (.aaload, 1) := by decide +kernel
theorem dX1_become_112 : decode cX1_become 112 = .ok (.iconst 0, 1) := by decide +kernel
theorem dX1_become_113 : decode cX1_become 113 = .ok (.bipush 12, 2) := by decide +kernel
theorem dX1_become_115 : decode cX1_become 115 = .ok (.invokestatic 40, 3) := by decide +kernel
theorem dX1_become_118 : decode cX1_become 118 = .ok (.iinc 2 1, 3) := by decide +kernel
theorem dX1_become_121 : decode cX1_become 121 = .ok (.goto (-27), 3) := by decide +kernel
theorem dX1_become_124 : decode cX1_become 124 = .ok (.return_, 1) := by decide +kernel
theorem dX1_monthOfYear_0 : decode cX1_monthOfYear 0 = .ok (.aload_n 0, 1) := by decide +kernel
theorem dX1_monthOfYear_1 : decode cX1_monthOfYear 1 = .ok (.getfield 33, 3) := by decide +kernel
theorem dX1_monthOfYear_4 : decode cX1_monthOfYear 4 = .ok (.bipush 12, 2) := by decide +kernel
theorem dX1_monthOfYear_6 : decode cX1_monthOfYear 6 = .ok (.irem, 1) := by decide +kernel
theorem dX1_monthOfYear_7 : decode cX1_monthOfYear 7 = .ok (.ireturn, 1) := by decide +kernel
theorem dX1_isFull_0 : decode cX1_isFull 0 = .ok (.aload_n 0, 1) := by decide +kernel
theorem dX1_isFull_1 : decode cX1_isFull 1 = .ok (.getfield 37, 3) := by decide +kernel
theorem dX1_isFull_4 : decode cX1_isFull 4 = .ok (.bipush 8, 2) := by decide +kernel
theorem dX1_isFull_6 : decode cX1_isFull 6 = .ok (.if_icmp .lt 7, 3) := by decide +kernel
theorem dX1_isFull_9 : decode cX1_isFull 9 = .ok (.iconst 1, 1) := by decide +kernel
theorem dX1_isFull_10 : decode cX1_isFull 10 = .ok (.goto 4, 3) := by decide +kernel
theorem dX1_isFull_13 : decode cX1_isFull 13 = .ok (.iconst 0, 1) := by decide +kernel
theorem dX1_isFull_14 : decode cX1_isFull 14 = .ok (.ireturn, 1) := by decide +kernel
theorem dX1_add_0 : decode cX1_add 0 = .ok (.aload_n 0, 1) := by decide +kernel
theorem dX1_add_1 : decode cX1_add 1 = .ok (.invokevirtual 50, 3) := by decide +kernel
theorem dX1_add_4 : decode cX1_add 4 = .ok (.ifCond .eq 4, 3) := by decide +kernel
theorem dX1_add_7 : decode cX1_add 7 = .ok (.return_, 1) := by decide +kernel
theorem dX1_add_8 : decode cX1_add 8 = .ok (.aload_n 0, 1) := by decide +kernel
theorem dX1_add_9 : decode cX1_add 9 = .ok (.getfield 23, 3) := by decide +kernel
theorem dX1_add_12 : decode cX1_add 12 = .ok (.aload_n 0, 1) := by decide +kernel
theorem dX1_add_13 : decode cX1_add 13 = .ok (.getfield 37, 3) := by decide +kernel
theorem dX1_add_16 : decode cX1_add 16 = .ok (.aaload, 1) := by decide +kernel
theorem dX1_add_17 : decode cX1_add 17 = .ok (.invokevirtual 54, 3) := by decide +kernel
theorem dX1_add_20 : decode cX1_add 20 = .ok (.aload_n 0, 1) := by decide +kernel
theorem dX1_add_21 : decode cX1_add 21 = .ok (.getfield 23, 3) := by decide +kernel
theorem dX1_add_24 : decode cX1_add 24 = .ok (.aload_n 0, 1) := by decide +kernel
theorem dX1_add_25 : decode cX1_add 25 = .ok (.getfield 37, 3) := by decide +kernel
theorem dX1_add_28 : decode cX1_add 28 = .ok (.aaload, 1) := by decide +kernel
theorem dX1_add_29 : decode cX1_add 29 = .ok (.iload_n 1, 1) := by decide +kernel
theorem dX1_add_30 : decode cX1_add 30 = .ok (.putfield 57, 3) := by decide +kernel
theorem dX1_add_33 : decode cX1_add 33 = .ok (.aload_n 0, 1) := by decide +kernel
theorem dX1_add_34 : decode cX1_add 34 = .ok (.getfield 23, 3) := by decide +kernel
theorem dX1_add_37 : decode cX1_add 37 = .ok (.aload_n 0, 1) := by decide +kernel
theorem dX1_add_38 : decode cX1_add 38 = .ok (.getfield 37, 3) := by decide +kernel
theorem dX1_add_41 : decode cX1_add 41 = .ok (.aaload, 1) := by decide +kernel
theorem dX1_add_42 : decode cX1_add 42 = .ok (.iload_n 2, 1) := by decide +kernel
theorem dX1_add_43 : decode cX1_add 43 = .ok (.putfield 60, 3) := by decide +kernel
theorem dX1_add_46 : decode cX1_add 46 = .ok (.aload_n 0, 1) := by decide +kernel
theorem dX1_add_47 : decode cX1_add 47 = .ok (.dup, 1) := by decide +kernel
theorem dX1_add_48 : decode cX1_add 48 = .ok (.getfield 37, 3) := by decide +kernel
theorem dX1_add_51 : decode cX1_add 51 = .ok (.iconst 1, 1) := by decide +kernel
theorem dX1_add_52 : decode cX1_add 52 = .ok (.iadd, 1) := by decide +kernel
theorem dX1_add_53 : decode cX1_add 53 = .ok (.putfield 37, 3) := by decide +kernel
theorem dX1_add_56 : decode cX1_add 56 = .ok (.return_, 1) := by decide +kernel
theorem dX1_pass_0 : decode cX1_pass 0 = .ok (.iconst 0, 1) := by decide +kernel
theorem dX1_pass_1 : decode cX1_pass 1 = .ok (.istore_n 2, 1) := by decide +kernel
theorem dX1_pass_2 : decode cX1_pass 2 = .ok (.iload_n 2, 1) := by decide +kernel
theorem dX1_pass_3 : decode cX1_pass 3 = .ok (.iload_n 1, 1) := by decide +kernel
theorem dX1_pass_4 : decode cX1_pass 4 = .ok (.if_icmp .ge 13, 3) := by decide +kernel
theorem dX1_pass_7 : decode cX1_pass 7 = .ok (.aload_n 0, 1) := by decide +kernel
theorem dX1_pass_8 : decode cX1_pass 8 = .ok (.invokevirtual 63, 3) := by decide +kernel
theorem dX1_pass_11 : decode cX1_pass 11 = .ok (.iinc 2 1, 3) := by decide +kernel
theorem dX1_pass_14 : decode cX1_pass 14 = .ok (.goto (-12), 3) := by decide +kernel
theorem dX1_pass_17 : decode cX1_pass 17 = .ok (.return_, 1) := by decide +kernel
theorem dX1_passOne_0 : decode cX1_passOne 0 = .ok (.aload_n 0, 1) := by decide +kernel
theorem dX1_passOne_1 : decode cX1_passOne 1 = .ok (.invokevirtual 66, 3) := by decide +kernel
theorem dX1_passOne_4 : decode cX1_passOne 4 = .ok (.istore_n 1, 1) := by decide +kernel
theorem dX1_passOne_5 : decode cX1_passOne 5 = .ok (.iconst 0, 1) := by decide +kernel
theorem dX1_passOne_6 : decode cX1_passOne 6 = .ok (.istore_n 2, 1) := by decide +kernel
theorem dX1_passOne_7 : decode cX1_passOne 7 = .ok (.iload_n 2, 1) := by decide +kernel
theorem dX1_passOne_8 : decode cX1_passOne 8 = .ok (.aload_n 0, 1) := by decide +kernel
theorem dX1_passOne_9 : decode cX1_passOne 9 = .ok (.getfield 37, 3) := by decide +kernel
theorem dX1_passOne_12 : decode cX1_passOne 12 = .ok (.if_icmp .ge 25, 3) := by decide +kernel
theorem dX1_passOne_15 : decode cX1_passOne 15 = .ok (.aload_n 0, 1) := by decide +kernel
theorem dX1_passOne_16 : decode cX1_passOne 16 = .ok (.getfield 23, 3) := by decide +kernel
theorem dX1_passOne_19 : decode cX1_passOne 19 = .ok (.iload_n 2, 1) := by decide +kernel
theorem dX1_passOne_20 : decode cX1_passOne 20 = .ok (.aaload, 1) := by decide +kernel
theorem dX1_passOne_21 : decode cX1_passOne 21 = .ok (.iload_n 1, 1) := by decide +kernel
theorem dX1_passOne_22 : decode cX1_passOne 22 = .ok (.aload_n 0, 1) := by decide +kernel
theorem dX1_passOne_23 : decode cX1_passOne 23 = .ok (.getfield 9, 3) := by decide +kernel
theorem dX1_passOne_26 : decode cX1_passOne 26 = .ok (.iload_n 1, 1) := by decide +kernel
theorem dX1_passOne_27 : decode cX1_passOne 27 = .ok (.iaload, 1) := by decide +kernel
theorem dX1_passOne_28 : decode cX1_passOne 28 = .ok (.invokevirtual 70, 3) := by decide +kernel
theorem dX1_passOne_31 : decode cX1_passOne 31 = .ok (.iinc 2 1, 3) := by decide +kernel
theorem dX1_passOne_34 : decode cX1_passOne 34 = .ok (.goto (-27), 3) := by decide +kernel
theorem dX1_passOne_37 : decode cX1_passOne 37 = .ok (.iload_n 1, 1) := by decide +kernel
theorem dX1_passOne_38 : decode cX1_passOne 38 = .ok (.iconst 5, 1) := by decide +kernel
theorem dX1_passOne_39 : decode cX1_passOne 39 = .ok (.if_icmp .ne 29, 3) := by decide +kernel
theorem dX1_passOne_42 : decode cX1_passOne 42 = .ok (.iconst 0, 1) := by decide +kernel
theorem dX1_passOne_43 : decode cX1_passOne 43 = .ok (.istore_n 2, 1) := by decide +kernel
theorem dX1_passOne_44 : decode cX1_passOne 44 = .ok (.iload_n 2, 1) := by decide +kernel
theorem dX1_passOne_45 : decode cX1_passOne 45 = .ok (.aload_n 0, 1) := by decide +kernel
theorem dX1_passOne_46 : decode cX1_passOne 46 = .ok (.getfield 37, 3) := by decide +kernel
theorem dX1_passOne_49 : decode cX1_passOne 49 = .ok (.if_icmp .ge 19, 3) := by decide +kernel
theorem dX1_passOne_52 : decode cX1_passOne 52 = .ok (.aload_n 0, 1) := by decide +kernel
theorem dX1_passOne_53 : decode cX1_passOne 53 = .ok (.aload_n 0, 1) := by decide +kernel
theorem dX1_passOne_54 : decode cX1_passOne 54 = .ok (.getfield 23, 3) := by decide +kernel
theorem dX1_passOne_57 : decode cX1_passOne 57 = .ok (.iload_n 2, 1) := by decide +kernel
theorem dX1_passOne_58 : decode cX1_passOne 58 = .ok (.aaload, 1) := by decide +kernel
theorem dX1_passOne_59 : decode cX1_passOne 59 = .ok (.invokevirtual 74, 3) := by decide +kernel
theorem dX1_passOne_62 : decode cX1_passOne 62 = .ok (.iinc 2 1, 3) := by decide +kernel
theorem dX1_passOne_65 : decode cX1_passOne 65 = .ok (.goto (-21), 3) := by decide +kernel
theorem dX1_passOne_68 : decode cX1_passOne 68 = .ok (.aload_n 0, 1) := by decide +kernel
theorem dX1_passOne_69 : decode cX1_passOne 69 = .ok (.dup, 1) := by decide +kernel
theorem dX1_passOne_70 : decode cX1_passOne 70 = .ok (.getfield 33, 3) := by decide +kernel
theorem dX1_passOne_73 : decode cX1_passOne 73 = .ok (.iconst 1, 1) := by decide +kernel
theorem dX1_passOne_74 : decode cX1_passOne 74 = .ok (.iadd, 1) := by decide +kernel
theorem dX1_passOne_75 : decode cX1_passOne 75 = .ok (.putfield 33, 3) := by decide +kernel
theorem dX1_passOne_78 : decode cX1_passOne 78 = .ok (.return_, 1) := by decide +kernel
theorem dX1_shear_0 : decode cX1_shear 0 = .ok (.iconst 0, 1) := by decide +kernel
theorem dX1_shear_1 : decode cX1_shear 1 = .ok (.istore_n 2, 1) := by decide +kernel
theorem dX1_shear_2 : decode cX1_shear 2 = .ok (.iload_n 2, 1) := by decide +kernel
theorem dX1_shear_3 : decode cX1_shear 3 = .ok (.bipush 12, 2) := by decide +kernel
theorem dX1_shear_5 : decode cX1_shear 5 = .ok (.if_icmp .ge 75, 3) := by decide +kernel
theorem dX1_shear_8 : decode cX1_shear 8 = .ok (.aload_n 1, 1) := by decide +kernel
theorem dX1_shear_9 : decode cX1_shear 9 = .ok (.getfield 77, 3) := by decide +kernel
theorem dX1_shear_12 : decode cX1_shear 12 = .ok (.iload_n 2, 1) := by decide +kernel
theorem dX1_shear_13 : decode cX1_shear 13 = .ok (.iaload, 1) := by decide +kernel
theorem dX1_shear_14 : decode cX1_shear 14 = .ok (.ifCond .le 60, 3) := by decide +kernel
theorem dX1_shear_17 : decode cX1_shear 17 = .ok (.aload_n 0, 1) := by decide +kernel
theorem dX1_shear_18 : decode cX1_shear 18 = .ok (.getfield 15, 3) := by decide +kernel
theorem dX1_shear_21 : decode cX1_shear 21 = .ok (.iload_n 2, 1) := by decide +kernel
theorem dX1_shear_22 : decode cX1_shear 22 = .ok (.sipush 9999, 3) := by decide +kernel
theorem dX1_shear_25 : decode cX1_shear 25 = .ok (.aload_n 0, 1) := by decide +kernel
theorem dX1_shear_26 : decode cX1_shear 26 = .ok (.getfield 15, 3) := by decide +kernel
theorem dX1_shear_29 : decode cX1_shear 29 = .ok (.iload_n 2, 1) := by decide +kernel
theorem dX1_shear_30 : decode cX1_shear 30 = .ok (.iaload, 1) := by decide +kernel
theorem dX1_shear_31 : decode cX1_shear 31 = .ok (.aload_n 1, 1) := by decide +kernel
theorem dX1_shear_32 : decode cX1_shear 32 = .ok (.getfield 77, 3) := by decide +kernel
theorem dX1_shear_35 : decode cX1_shear 35 = .ok (.iload_n 2, 1) := by decide +kernel
theorem dX1_shear_36 : decode cX1_shear 36 = .ok (.iaload, 1) := by decide +kernel
theorem dX1_shear_37 : decode cX1_shear 37 = .ok (.iadd, 1) := by decide +kernel
theorem dX1_shear_38 : decode cX1_shear 38 = .ok (.invokestatic 80, 3) := by decide +kernel
theorem dX1_shear_41 : decode cX1_shear 41 = .ok (.iastore, 1) := by decide +kernel
theorem dX1_shear_42 : decode cX1_shear 42 = .ok (.aload_n 0, 1) := by decide +kernel
theorem dX1_shear_43 : decode cX1_shear 43 = .ok (.getfield 18, 3) := by decide +kernel
theorem dX1_shear_46 : decode cX1_shear 46 = .ok (.iload_n 2, 1) := by decide +kernel
theorem dX1_shear_47 : decode cX1_shear 47 = .ok (.sipush 9999, 3) := by decide +kernel
theorem dX1_shear_50 : decode cX1_shear 50 = .ok (.aload_n 0, 1) := by decide +kernel
theorem dX1_shear_51 : decode cX1_shear 51 = .ok (.getfield 18, 3) := by decide +kernel
theorem dX1_shear_54 : decode cX1_shear 54 = .ok (.iload_n 2, 1) := by decide +kernel
theorem dX1_shear_55 : decode cX1_shear 55 = .ok (.iaload, 1) := by decide +kernel
theorem dX1_shear_56 : decode cX1_shear 56 = .ok (.aload_n 1, 1) := by decide +kernel
theorem dX1_shear_57 : decode cX1_shear 57 = .ok (.getfield 57, 3) := by decide +kernel
theorem dX1_shear_60 : decode cX1_shear 60 = .ok (.aload_n 0, 1) := by decide +kernel
theorem dX1_shear_61 : decode cX1_shear 61 = .ok (.getfield 9, 3) := by decide +kernel
theorem dX1_shear_64 : decode cX1_shear 64 = .ok (.iload_n 2, 1) := by decide +kernel
theorem dX1_shear_65 : decode cX1_shear 65 = .ok (.iaload, 1) := by decide +kernel
theorem dX1_shear_66 : decode cX1_shear 66 = .ok (.invokestatic 86, 3) := by decide +kernel
theorem dX1_shear_69 : decode cX1_shear 69 = .ok (.iadd, 1) := by decide +kernel
theorem dX1_shear_70 : decode cX1_shear 70 = .ok (.invokestatic 80, 3) := by decide +kernel
theorem dX1_shear_73 : decode cX1_shear 73 = .ok (.iastore, 1) := by decide +kernel
theorem dX1_shear_74 : decode cX1_shear 74 = .ok (.iinc 2 1, 3) := by decide +kernel
theorem dX1_shear_77 : decode cX1_shear 77 = .ok (.goto (-75), 3) := by decide +kernel
theorem dX1_shear_80 : decode cX1_shear 80 = .ok (.aload_n 1, 1) := by decide +kernel
theorem dX1_shear_81 : decode cX1_shear 81 = .ok (.invokevirtual 54, 3) := by decide +kernel
theorem dX1_shear_84 : decode cX1_shear 84 = .ok (.return_, 1) := by decide +kernel
theorem dX1_roomInCoat_0 : decode cX1_roomInCoat 0 = .ok (.sipush 999, 3) := by decide +kernel
theorem dX1_roomInCoat_3 : decode cX1_roomInCoat 3 = .ok (.aload_n 0, 1) := by decide +kernel
theorem dX1_roomInCoat_4 : decode cX1_roomInCoat 4 = .ok (.getfield 29, 3) := by decide +kernel
theorem dX1_roomInCoat_7 : decode cX1_roomInCoat 7 = .ok (.iload_n 1, 1) := by decide +kernel
theorem dX1_roomInCoat_8 : decode cX1_roomInCoat 8 = .ok (.aaload, 1) := by decide +kernel
theorem dX1_roomInCoat_9 : decode cX1_roomInCoat 9 = .ok (.iload_n 2, 1) := by decide +kernel
theorem dX1_roomInCoat_10 : decode cX1_roomInCoat 10 = .ok (.iaload, 1) := by decide +kernel
theorem dX1_roomInCoat_11 : decode cX1_roomInCoat 11 = .ok (.isub, 1) := by decide +kernel
theorem dX1_roomInCoat_12 : decode cX1_roomInCoat 12 = .ok (.ireturn, 1) := by decide +kernel
theorem dX1_cutFor_0 : decode cX1_cutFor 0 = .ok (.aload_n 0, 1) := by decide +kernel
theorem dX1_cutFor_1 : decode cX1_cutFor 1 = .ok (.getfield 15, 3) := by decide +kernel
theorem dX1_cutFor_4 : decode cX1_cutFor 4 = .ok (.iload_n 2, 1) := by decide +kernel
theorem dX1_cutFor_5 : decode cX1_cutFor 5 = .ok (.dup2, 1) := by decide +kernel
theorem dX1_cutFor_6 : decode cX1_cutFor 6 = .ok (.iaload, 1) := by decide +kernel
theorem dX1_cutFor_7 : decode cX1_cutFor 7 = .ok (.iload_n 3, 1) := by decide +kernel
theorem dX1_cutFor_8 : decode cX1_cutFor 8 = .ok (.isub, 1) := by decide +kernel
theorem dX1_cutFor_9 : decode cX1_cutFor 9 = .ok (.iastore, 1) := by decide +kernel
theorem dX1_cutFor_10 : decode cX1_cutFor 10 = .ok (.aload_n 0, 1) := by decide +kernel
theorem dX1_cutFor_11 : decode cX1_cutFor 11 = .ok (.getfield 29, 3) := by decide +kernel
theorem dX1_cutFor_14 : decode cX1_cutFor 14 = .ok (.iload_n 1, 1) := by decide +kernel
theorem dX1_cutFor_15 : decode cX1_cutFor 15 = .ok (.aaload, 1) := by decide +kernel
theorem dX1_cutFor_16 : decode cX1_cutFor 16 = .ok (.iload_n 2, 1) := by decide +kernel
theorem dX1_cutFor_17 : decode cX1_cutFor 17 = .ok (.dup2, 1) := by decide +kernel
theorem dX1_cutFor_18 : decode cX1_cutFor 18 = .ok (.iaload, 1) := by decide +kernel
theorem dX1_cutFor_19 : decode cX1_cutFor 19 = .ok (.iload_n 3, 1) := by decide +kernel
theorem dX1_cutFor_20 : decode cX1_cutFor 20 = .ok (.iadd, 1) := by decide +kernel
theorem dX1_cutFor_21 : decode cX1_cutFor 21 = .ok (.iastore, 1) := by decide +kernel
theorem dX1_cutFor_22 : decode cX1_cutFor 22 = .ok (.return_, 1) := by decide +kernel
theorem dX1_undoCoat_0 : decode cX1_undoCoat 0 = .ok (.iconst 0, 1) := by decide +kernel
theorem dX1_undoCoat_1 : decode cX1_undoCoat 1 = .ok (.istore_n 2, 1) := by decide +kernel
theorem dX1_undoCoat_2 : decode cX1_undoCoat 2 = .ok (.iload_n 2, 1) := by decide +kernel
theorem dX1_undoCoat_3 : decode cX1_undoCoat 3 = .ok (.bipush 12, 2) := by decide +kernel
theorem dX1_undoCoat_5 : decode cX1_undoCoat 5 = .ok (.if_icmp .ge 45, 3) := by decide +kernel
theorem dX1_undoCoat_8 : decode cX1_undoCoat 8 = .ok (.aload_n 0, 1) := by decide +kernel
theorem dX1_undoCoat_9 : decode cX1_undoCoat 9 = .ok (.getfield 15, 3) := by decide +kernel
theorem dX1_undoCoat_12 : decode cX1_undoCoat 12 = .ok (.iload_n 2, 1) := by decide +kernel
theorem dX1_undoCoat_13 : decode cX1_undoCoat 13 = .ok (.sipush 9999, 3) := by decide +kernel
theorem dX1_undoCoat_16 : decode cX1_undoCoat 16 = .ok (.aload_n 0, 1) := by decide +kernel
theorem dX1_undoCoat_17 : decode cX1_undoCoat 17 = .ok (.getfield 15, 3) := by decide +kernel
theorem dX1_undoCoat_20 : decode cX1_undoCoat 20 = .ok (.iload_n 2, 1) := by decide +kernel
theorem dX1_undoCoat_21 : decode cX1_undoCoat 21 = .ok (.iaload, 1) := by decide +kernel
theorem dX1_undoCoat_22 : decode cX1_undoCoat 22 = .ok (.aload_n 0, 1) := by decide +kernel
theorem dX1_undoCoat_23 : decode cX1_undoCoat 23 = .ok (.getfield 29, 3) := by decide +kernel
theorem dX1_undoCoat_26 : decode cX1_undoCoat 26 = .ok (.iload_n 1, 1) := by decide +kernel
theorem dX1_undoCoat_27 : decode cX1_undoCoat 27 = .ok (.aaload, 1) := by decide +kernel
theorem dX1_undoCoat_28 : decode cX1_undoCoat 28 = .ok (.iload_n 2, 1) := by decide +kernel
theorem dX1_undoCoat_29 : decode cX1_undoCoat 29 = .ok (.iaload, 1) := by decide +kernel
theorem dX1_undoCoat_30 : decode cX1_undoCoat 30 = .ok (.iadd, 1) := by decide +kernel
theorem dX1_undoCoat_31 : decode cX1_undoCoat 31 = .ok (.invokestatic 80, 3) := by decide +kernel
theorem dX1_undoCoat_34 : decode cX1_undoCoat 34 = .ok (.iastore, 1) := by decide +kernel
theorem dX1_undoCoat_35 : decode cX1_undoCoat 35 = .ok (.aload_n 0, 1) := by decide +kernel
theorem dX1_undoCoat_36 : decode cX1_undoCoat 36 = .ok (.getfield 29, 3) := by decide +kernel
theorem dX1_undoCoat_39 : decode cX1_undoCoat 39 = .ok (.iload_n 1, 1) := by decide +kernel
theorem dX1_undoCoat_40 : decode cX1_undoCoat 40 = .ok (.aaload, 1) := by decide +kernel
theorem dX1_undoCoat_41 : decode cX1_undoCoat 41 = .ok (.iload_n 2, 1) := by decide +kernel
theorem dX1_undoCoat_42 : decode cX1_undoCoat 42 = .ok (.iconst 0, 1) := by decide +kernel
theorem dX1_undoCoat_43 : decode cX1_undoCoat 43 = .ok (.iastore, 1) := by decide +kernel
theorem dX1_undoCoat_44 : decode cX1_undoCoat 44 = .ok (.iinc 2 1, 3) := by decide +kernel
theorem dX1_undoCoat_47 : decode cX1_undoCoat 47 = .ok (.goto (-45), 3) := by decide +kernel
theorem dX1_undoCoat_50 : decode cX1_undoCoat 50 = .ok (.return_, 1) := by decide +kernel
theorem dX1_warmthOf_0 : decode cX1_warmthOf 0 = .ok (.aload_n 0, 1) := by decide +kernel
theorem dX1_warmthOf_1 : decode cX1_warmthOf 1 = .ok (.getfield 9, 3) := by decide +kernel
theorem dX1_warmthOf_4 : decode cX1_warmthOf 4 = .ok (.iload_n 1, 1) := by decide +kernel
theorem dX1_warmthOf_5 : decode cX1_warmthOf 5 = .ok (.iaload, 1) := by decide +kernel
theorem dX1_warmthOf_6 : decode cX1_warmthOf 6 = .ok (.ifCond .ge 7, 3) := by decide +kernel
theorem dX1_warmthOf_9 : decode cX1_warmthOf 9 = .ok (.iconst 2, 1) := by decide +kernel
theorem dX1_warmthOf_10 : decode cX1_warmthOf 10 = .ok (.iload_n 2, 1) := by decide +kernel
theorem dX1_warmthOf_11 : decode cX1_warmthOf 11 = .ok (.imul, 1) := by decide +kernel
theorem dX1_warmthOf_12 : decode cX1_warmthOf 12 = .ok (.ireturn, 1) := by decide +kernel
theorem dX1_warmthOf_13 : decode cX1_warmthOf 13 = .ok (.aload_n 0, 1) := by decide +kernel
theorem dX1_warmthOf_14 : decode cX1_warmthOf 14 = .ok (.getfield 9, 3) := by decide +kernel
theorem dX1_warmthOf_17 : decode cX1_warmthOf 17 = .ok (.iload_n 1, 1) := by decide +kernel
theorem dX1_warmthOf_18 : decode cX1_warmthOf 18 = .ok (.iaload, 1) := by decide +kernel
theorem dX1_warmthOf_19 : decode cX1_warmthOf 19 = .ok (.bipush 10, 2) := by decide +kernel
theorem dX1_warmthOf_21 : decode cX1_warmthOf 21 = .ok (.if_icmp .le 9, 3) := by decide +kernel
theorem dX1_warmthOf_24 : decode cX1_warmthOf 24 = .ok (.iload_n 2, 1) := by decide +kernel
theorem dX1_warmthOf_25 : decode cX1_warmthOf 25 = .ok (.iconst 2, 1) := by decide +kernel
theorem dX1_warmthOf_26 : decode cX1_warmthOf 26 = .ok (.idiv, 1) := by decide +kernel
theorem dX1_warmthOf_27 : decode cX1_warmthOf 27 = .ok (.goto 4, 3) := by decide +kernel
theorem dX1_warmthOf_30 : decode cX1_warmthOf 30 = .ok (.iload_n 2, 1) := by decide +kernel
theorem dX1_warmthOf_31 : decode cX1_warmthOf 31 = .ok (.ireturn, 1) := by decide +kernel
theorem dX1_warmthOfCoat_0 : decode cX1_warmthOfCoat 0 = .ok (.iconst 0, 1) := by decide +kernel
theorem dX1_warmthOfCoat_1 : decode cX1_warmthOfCoat 1 = .ok (.istore_n 2, 1) := by decide +kernel
theorem dX1_warmthOfCoat_2 : decode cX1_warmthOfCoat 2 = .ok (.iconst 0, 1) := by decide +kernel
theorem dX1_warmthOfCoat_3 : decode cX1_warmthOfCoat 3 = .ok (.istore_n 3, 1) := by decide +kernel
theorem dX1_warmthOfCoat_4 : decode cX1_warmthOfCoat 4 = .ok (.iload_n 3, 1) := by decide +kernel
theorem dX1_warmthOfCoat_5 : decode cX1_warmthOfCoat 5 = .ok (.bipush 12, 2) := by decide +kernel
theorem dX1_warmthOfCoat_7 : decode cX1_warmthOfCoat 7 = .ok (.if_icmp .ge 25, 3) := by decide +kernel
theorem dX1_warmthOfCoat_10 : decode cX1_warmthOfCoat 10 = .ok (.iload_n 2, 1) := by decide +kernel
theorem dX1_warmthOfCoat_11 : decode cX1_warmthOfCoat 11 = .ok (.aload_n 0, 1) := by decide +kernel
theorem dX1_warmthOfCoat_12 : decode cX1_warmthOfCoat 12 = .ok (.iload_n 3, 1) := by decide +kernel
theorem dX1_warmthOfCoat_13 : decode cX1_warmthOfCoat 13 = .ok (.aload_n 0, 1) := by decide +kernel
theorem dX1_warmthOfCoat_14 : decode cX1_warmthOfCoat 14 = .ok (.getfield 29, 3) := by decide +kernel
theorem dX1_warmthOfCoat_17 : decode cX1_warmthOfCoat 17 = .ok (.iload_n 1, 1) := by decide +kernel
theorem dX1_warmthOfCoat_18 : decode cX1_warmthOfCoat 18 = .ok (.aaload, 1) := by decide +kernel
theorem dX1_warmthOfCoat_19 : decode cX1_warmthOfCoat 19 = .ok (.iload_n 3, 1) := by decide +kernel
theorem dX1_warmthOfCoat_20 : decode cX1_warmthOfCoat 20 = .ok (.iaload, 1) := by decide +kernel
theorem dX1_warmthOfCoat_21 : decode cX1_warmthOfCoat 21 = .ok (.invokevirtual 89, 3) := by decide +kernel
theorem dX1_warmthOfCoat_24 : decode cX1_warmthOfCoat 24 = .ok (.iadd, 1) := by decide +kernel
theorem dX1_warmthOfCoat_25 : decode cX1_warmthOfCoat 25 = .ok (.istore_n 2, 1) := by decide +kernel
theorem dX1_warmthOfCoat_26 : decode cX1_warmthOfCoat 26 = .ok (.iinc 3 1, 3) := by decide +kernel
theorem dX1_warmthOfCoat_29 : decode cX1_warmthOfCoat 29 = .ok (.goto (-25), 3) := by decide +kernel
theorem dX1_warmthOfCoat_32 : decode cX1_warmthOfCoat 32 = .ok (.iload_n 2, 1) := by decide +kernel
theorem dX1_warmthOfCoat_33 : decode cX1_warmthOfCoat 33 = .ok (.ireturn, 1) := by decide +kernel
theorem dX1_harshnessOfCoat_0 : decode cX1_harshnessOfCoat 0 = .ok (.iconst 0, 1) := by decide +kernel
theorem dX1_harshnessOfCoat_1 : decode cX1_harshnessOfCoat 1 = .ok (.istore_n 2, 1) := by decide +kernel
theorem dX1_harshnessOfCoat_2 : decode cX1_harshnessOfCoat 2 = .ok (.iconst 0, 1) := by decide +kernel
theorem dX1_harshnessOfCoat_3 : decode cX1_harshnessOfCoat 3 = .ok (.istore_n 3, 1) := by decide +kernel
theorem dX1_harshnessOfCoat_4 : decode cX1_harshnessOfCoat 4 = .ok (.iload_n 3, 1) := by decide +kernel
theorem dX1_harshnessOfCoat_5 : decode cX1_harshnessOfCoat 5 = .ok (.bipush 12, 2) := by decide +kernel
theorem dX1_harshnessOfCoat_7 : decode cX1_harshnessOfCoat 7 = .ok (.if_icmp .ge 30, 3) := by decide +kernel
theorem dX1_harshnessOfCoat_10 : decode cX1_harshnessOfCoat 10 = .ok (.iload_n 2, 1) := by decide +kernel
theorem dX1_harshnessOfCoat_11 : decode cX1_harshnessOfCoat 11 = .ok (.aload_n 0, 1) := by decide +kernel
theorem dX1_harshnessOfCoat_12 : decode cX1_harshnessOfCoat 12 = .ok (.getfield 29, 3) := by decide +kernel
theorem dX1_harshnessOfCoat_15 : decode cX1_harshnessOfCoat 15 = .ok (.iload_n 1, 1) := by decide +kernel
theorem dX1_harshnessOfCoat_16 : decode cX1_harshnessOfCoat 16 = .ok (.aaload, 1) := by decide +kernel
theorem dX1_harshnessOfCoat_17 : decode cX1_harshnessOfCoat 17 = .ok (.iload_n 3, 1) := by decide +kernel
theorem dX1_harshnessOfCoat_18 : decode cX1_harshnessOfCoat 18 = .ok (.iaload, 1) := by decide +kernel
theorem dX1_harshnessOfCoat_19 : decode cX1_harshnessOfCoat 19 = .ok (.aload_n 0, 1) := by decide +kernel
theorem dX1_harshnessOfCoat_20 : decode cX1_harshnessOfCoat 20 = .ok (.getfield 18, 3) := by decide +kernel
theorem dX1_harshnessOfCoat_23 : decode cX1_harshnessOfCoat 23 = .ok (.iload_n 3, 1) := by decide +kernel
theorem dX1_harshnessOfCoat_24 : decode cX1_harshnessOfCoat 24 = .ok (.iaload, 1) := by decide +kernel
theorem dX1_harshnessOfCoat_25 : decode cX1_harshnessOfCoat 25 = .ok (.imul, 1) := by decide +kernel
theorem dX1_harshnessOfCoat_26 : decode cX1_harshnessOfCoat 26 = .ok (.bipush 100, 2) := by decide +kernel
theorem dX1_harshnessOfCoat_28 : decode cX1_harshnessOfCoat 28 = .ok (.idiv, 1) := by decide +kernel
theorem dX1_harshnessOfCoat_29 : decode cX1_harshnessOfCoat 29 = .ok (.iadd, 1) := by decide +kernel
theorem dX1_harshnessOfCoat_30 : decode cX1_harshnessOfCoat 30 = .ok (.istore_n 2, 1) := by decide +kernel
theorem dX1_harshnessOfCoat_31 : decode cX1_harshnessOfCoat 31 = .ok (.iinc 3 1, 3) := by decide +kernel
theorem dX1_harshnessOfCoat_34 : decode cX1_harshnessOfCoat 34 = .ok (.goto (-30), 3) := by decide +kernel
theorem dX1_harshnessOfCoat_37 : decode cX1_harshnessOfCoat 37 = .ok (.iload_n 2, 1) := by decide +kernel
theorem dX1_harshnessOfCoat_38 : decode cX1_harshnessOfCoat 38 = .ok (.ireturn, 1) := by decide +kernel
theorem dX1_monthsInCoat_0 : decode cX1_monthsInCoat 0 = .ok (.iconst 0, 1) := by decide +kernel
theorem dX1_monthsInCoat_1 : decode cX1_monthsInCoat 1 = .ok (.istore_n 2, 1) := by decide +kernel
theorem dX1_monthsInCoat_2 : decode cX1_monthsInCoat 2 = .ok (.iconst 0, 1) := by decide +kernel
theorem dX1_monthsInCoat_3 : decode cX1_monthsInCoat 3 = .ok (.istore_n 3, 1) := by decide +kernel
theorem dX1_monthsInCoat_4 : decode cX1_monthsInCoat 4 = .ok (.iload_n 3, 1) := by decide +kernel
theorem dX1_monthsInCoat_5 : decode cX1_monthsInCoat 5 = .ok (.bipush 12, 2) := by decide +kernel
theorem dX1_monthsInCoat_7 : decode cX1_monthsInCoat 7 = .ok (.if_icmp .ge 26, 3) := by decide +kernel
theorem dX1_monthsInCoat_10 : decode cX1_monthsInCoat 10 = .ok (.aload_n 0, 1) := by decide +kernel
theorem dX1_monthsInCoat_11 : decode cX1_monthsInCoat 11 = .ok (.getfield 29, 3) := by decide +kernel
theorem dX1_monthsInCoat_14 : decode cX1_monthsInCoat 14 = .ok (.iload_n 1, 1) := by decide +kernel
theorem dX1_monthsInCoat_15 : decode cX1_monthsInCoat 15 = .ok (.aaload, 1) := by decide +kernel
theorem dX1_monthsInCoat_16 : decode cX1_monthsInCoat 16 = .ok (.iload_n 3, 1) := by decide +kernel
theorem dX1_monthsInCoat_17 : decode cX1_monthsInCoat 17 = .ok (.iaload, 1) := by decide +kernel
theorem dX1_monthsInCoat_18 : decode cX1_monthsInCoat 18 = .ok (.ifCond .le 9, 3) := by decide +kernel
theorem dX1_monthsInCoat_21 : decode cX1_monthsInCoat 21 = .ok (.iload_n 2, 1) := by decide +kernel
theorem dX1_monthsInCoat_22 : decode cX1_monthsInCoat 22 = .ok (.iconst 1, 1) := by decide +kernel
theorem dX1_monthsInCoat_23 : decode cX1_monthsInCoat 23 = .ok (.iload_n 3, 1) := by decide +kernel
theorem dX1_monthsInCoat_24 : decode cX1_monthsInCoat 24 = .ok (.ishl, 1) := by decide +kernel
theorem dX1_monthsInCoat_25 : decode cX1_monthsInCoat 25 = .ok (.ior, 1) := by decide +kernel
theorem dX1_monthsInCoat_26 : decode cX1_monthsInCoat 26 = .ok (.istore_n 2, 1) := by decide +kernel
theorem dX1_monthsInCoat_27 : decode cX1_monthsInCoat 27 = .ok (.iinc 3 1, 3) := by decide +kernel
theorem dX1_monthsInCoat_30 : decode cX1_monthsInCoat 30 = .ok (.goto (-26), 3) := by decide +kernel
theorem dX1_monthsInCoat_33 : decode cX1_monthsInCoat 33 = .ok (.iload_n 2, 1) := by decide +kernel
theorem dX1_monthsInCoat_34 : decode cX1_monthsInCoat 34 = .ok (.ireturn, 1) := by decide +kernel
theorem dX1_coatsWithWool_0 : decode cX1_coatsWithWool 0 = .ok (.iconst 0, 1) := by decide +kernel
theorem dX1_coatsWithWool_1 : decode cX1_coatsWithWool 1 = .ok (.istore_n 1, 1) := by decide +kernel
theorem dX1_coatsWithWool_2 : decode cX1_coatsWithWool 2 = .ok (.iconst 0, 1) := by decide +kernel
theorem dX1_coatsWithWool_3 : decode cX1_coatsWithWool 3 = .ok (.istore_n 2, 1) := by decide +kernel
theorem dX1_coatsWithWool_4 : decode cX1_coatsWithWool 4 = .ok (.iload_n 2, 1) := by decide +kernel
theorem dX1_coatsWithWool_5 : decode cX1_coatsWithWool 5 = .ok (.iconst 4, 1) := by decide +kernel
theorem dX1_coatsWithWool_6 : decode cX1_coatsWithWool 6 = .ok (.if_icmp .ge 20, 3) := by decide +kernel
theorem dX1_coatsWithWool_9 : decode cX1_coatsWithWool 9 = .ok (.aload_n 0, 1) := by decide +kernel
theorem dX1_coatsWithWool_10 : decode cX1_coatsWithWool 10 = .ok (.iload_n 2, 1) := by decide +kernel
theorem dX1_coatsWithWool_11 : decode cX1_coatsWithWool 11 = .ok (.invokevirtual 92, 3) := by decide +kernel
theorem dX1_coatsWithWool_14 : decode cX1_coatsWithWool 14 = .ok (.ifCond .eq 6, 3) := by decide +kernel
theorem dX1_coatsWithWool_17 : decode cX1_coatsWithWool 17 = .ok (.iinc 1 1, 3) := by decide +kernel
theorem dX1_coatsWithWool_20 : decode cX1_coatsWithWool 20 = .ok (.iinc 2 1, 3) := by decide +kernel
theorem dX1_coatsWithWool_23 : decode cX1_coatsWithWool 23 = .ok (.goto (-19), 3) := by decide +kernel
theorem dX1_coatsWithWool_26 : decode cX1_coatsWithWool 26 = .ok (.iload_n 1, 1) := by decide +kernel
theorem dX1_coatsWithWool_27 : decode cX1_coatsWithWool 27 = .ok (.ireturn, 1) := by decide +kernel
theorem dX1_woolOnAll_0 : decode cX1_woolOnAll 0 = .ok (.iconst 0, 1) := by decide +kernel
theorem dX1_woolOnAll_1 : decode cX1_woolOnAll 1 = .ok (.istore_n 1, 1) := by decide +kernel
theorem dX1_woolOnAll_2 : decode cX1_woolOnAll 2 = .ok (.iconst 0, 1) := by decide +kernel
theorem dX1_woolOnAll_3 : decode cX1_woolOnAll 3 = .ok (.istore_n 2, 1) := by decide +kernel
theorem dX1_woolOnAll_4 : decode cX1_woolOnAll 4 = .ok (.iload_n 2, 1) := by decide +kernel
theorem dX1_woolOnAll_5 : decode cX1_woolOnAll 5 = .ok (.aload_n 0, 1) := by decide +kernel
theorem dX1_woolOnAll_6 : decode cX1_woolOnAll 6 = .ok (.getfield 37, 3) := by decide +kernel
theorem dX1_woolOnAll_9 : decode cX1_woolOnAll 9 = .ok (.if_icmp .ge 21, 3) := by decide +kernel
theorem dX1_woolOnAll_12 : decode cX1_woolOnAll 12 = .ok (.iload_n 1, 1) := by decide +kernel
theorem dX1_woolOnAll_13 : decode cX1_woolOnAll 13 = .ok (.aload_n 0, 1) := by decide +kernel
theorem dX1_woolOnAll_14 : decode cX1_woolOnAll 14 = .ok (.getfield 23, 3) := by decide +kernel
theorem dX1_woolOnAll_17 : decode cX1_woolOnAll 17 = .ok (.iload_n 2, 1) := by decide +kernel
theorem dX1_woolOnAll_18 : decode cX1_woolOnAll 18 = .ok (.aaload, 1) := by decide +kernel
theorem dX1_woolOnAll_19 : decode cX1_woolOnAll 19 = .ok (.getfield 96, 3) := by decide +kernel
theorem dX1_woolOnAll_22 : decode cX1_woolOnAll 22 = .ok (.iadd, 1) := by decide +kernel
theorem dX1_woolOnAll_23 : decode cX1_woolOnAll 23 = .ok (.istore_n 1, 1) := by decide +kernel
theorem dX1_woolOnAll_24 : decode cX1_woolOnAll 24 = .ok (.iinc 2 1, 3) := by decide +kernel
theorem dX1_woolOnAll_27 : decode cX1_woolOnAll 27 = .ok (.goto (-23), 3) := by decide +kernel
theorem dX1_woolOnAll_30 : decode cX1_woolOnAll 30 = .ok (.iload_n 1, 1) := by decide +kernel
theorem dX1_woolOnAll_31 : decode cX1_woolOnAll 31 = .ok (.ireturn, 1) := by decide +kernel
theorem dX1_frightOfAll_0 : decode cX1_frightOfAll 0 = .ok (.iconst 0, 1) := by decide +kernel
theorem dX1_frightOfAll_1 : decode cX1_frightOfAll 1 = .ok (.istore_n 1, 1) := by decide +kernel
theorem dX1_frightOfAll_2 : decode cX1_frightOfAll 2 = .ok (.iconst 0, 1) := by decide +kernel
theorem dX1_frightOfAll_3 : decode cX1_frightOfAll 3 = .ok (.istore_n 2, 1) := by decide +kernel
theorem dX1_frightOfAll_4 : decode cX1_frightOfAll 4 = .ok (.iload_n 2, 1) := by decide +kernel
theorem dX1_frightOfAll_5 : decode cX1_frightOfAll 5 = .ok (.aload_n 0, 1) := by decide +kernel
theorem dX1_frightOfAll_6 : decode cX1_frightOfAll 6 = .ok (.getfield 37, 3) := by decide +kernel
theorem dX1_frightOfAll_9 : decode cX1_frightOfAll 9 = .ok (.if_icmp .ge 21, 3) := by decide +kernel
theorem dX1_frightOfAll_12 : decode cX1_frightOfAll 12 = .ok (.iload_n 1, 1) := by decide +kernel
theorem dX1_frightOfAll_13 : decode cX1_frightOfAll 13 = .ok (.aload_n 0, 1) := by decide +kernel
theorem dX1_frightOfAll_14 : decode cX1_frightOfAll 14 = .ok (.getfield 23, 3) := by decide +kernel
theorem dX1_frightOfAll_17 : decode cX1_frightOfAll 17 = .ok (.iload_n 2, 1) := by decide +kernel
theorem dX1_frightOfAll_18 : decode cX1_frightOfAll 18 = .ok (.aaload, 1) := by decide +kernel
theorem dX1_frightOfAll_19 : decode cX1_frightOfAll 19 = .ok (.getfield 60, 3) := by decide +kernel
theorem dX1_frightOfAll_22 : decode cX1_frightOfAll 22 = .ok (.iadd, 1) := by decide +kernel
theorem dX1_frightOfAll_23 : decode cX1_frightOfAll 23 = .ok (.istore_n 1, 1) := by decide +kernel
theorem dX1_frightOfAll_24 : decode cX1_frightOfAll 24 = .ok (.iinc 2 1, 3) := by decide +kernel
theorem dX1_frightOfAll_27 : decode cX1_frightOfAll 27 = .ok (.goto (-23), 3) := by decide +kernel
theorem dX1_frightOfAll_30 : decode cX1_frightOfAll 30 = .ok (.iload_n 1, 1) := by decide +kernel
theorem dX1_frightOfAll_31 : decode cX1_frightOfAll 31 = .ok (.ireturn, 1) := by decide +kernel
theorem dX2_init_0 : decode cX2_init 0 = .ok (.aload_n 0, 1) := by decide +kernel
theorem dX2_init_1 : decode cX2_init 1 = .ok (.invokespecial 3, 3) := by decide +kernel
theorem dX2_init_4 : decode cX2_init 4 = .ok (.aload_n 0, 1) := by decide +kernel
theorem dX2_init_5 : decode cX2_init 5 = .ok (.bipush 40, 2) := by decide +kernel
theorem dX2_init_7 : decode cX2_init 7 = .ok (.newarray .long, 2) := by decide +kernel
theorem dX2_init_9 : decode cX2_init 9 = .ok (.putfield 9, 3) := by decide +kernel
theorem dX2_init_12 : decode cX2_init 12 = .ok (.return_, 1) := by decide +kernel
theorem dX2_isMissing_0 : decode cX2_isMissing 0 = .ok (.aload_n 0, 1) := by decide +kernel
theorem dX2_isMissing_1 : decode cX2_isMissing 1 = .ok (.getfield 15, 3) := by decide +kernel
theorem dX2_isMissing_4 : decode cX2_isMissing 4 = .ok (.ifCond .ne 7, 3) := by decide +kernel
theorem dX2_isMissing_7 : decode cX2_isMissing 7 = .ok (.iconst 1, 1) := by decide +kernel
theorem dX2_isMissing_8 : decode cX2_isMissing 8 = .ok (.goto 4, 3) := by decide +kernel
theorem dX2_isMissing_11 : decode cX2_isMissing 11 = .ok (.iconst 0, 1) := by decide +kernel
theorem dX2_isMissing_12 : decode cX2_isMissing 12 = .ok (.ireturn, 1) := by decide +kernel
theorem dX2_lay_0 : decode cX2_lay 0 = .ok (.aload_n 0, 1) := by decide +kernel
theorem dX2_lay_1 : decode cX2_lay 1 = .ok (.iload_n 1, 1) := by decide +kernel
theorem dX2_lay_2 : decode cX2_lay 2 = .ok (.putfield 15, 3) := by decide +kernel
theorem dX2_lay_5 : decode cX2_lay 5 = .ok (.aload_n 0, 1) := by decide +kernel
theorem dX2_lay_6 : decode cX2_lay 6 = .ok (.iload_n 2, 1) := by decide +kernel
theorem dX2_lay_7 : decode cX2_lay 7 = .ok (.putfield 19, 3) := by decide +kernel
theorem dX2_lay_10 : decode cX2_lay 10 = .ok (.aload_n 0, 1) := by decide +kernel
theorem dX2_lay_11 : decode cX2_lay 11 = .ok (.getfield 9, 3) := by decide +kernel
theorem dX2_lay_14 : decode cX2_lay 14 = .ok (.lconst 0, 1) := by decide +kernel
theorem dX2_lay_15 : decode cX2_lay 15 = .ok (.invokestatic 22, 3) := by decide +kernel
theorem dX2_lay_18 : decode cX2_lay 18 = .ok (.return_, 1) := by decide +kernel
theorem dX2_has_0 : decode cX2_has 0 = .ok (.iload_n 1, 1) := by decide +kernel
theorem dX2_has_1 : decode cX2_has 1 = .ok (.ifCond .lt 29, 3) := by decide +kernel
theorem dX2_has_4 : decode cX2_has 4 = .ok (.iload_n 2, 1) := by decide +kernel
theorem dX2_has_5 : decode cX2_has 5 = .ok (.ifCond .lt 25, 3) := by decide +kernel
theorem dX2_has_8 : decode cX2_has 8 = .ok (.iload_n 1, 1) := by decide +kernel
theorem dX2_has_9 : decode cX2_has 9 = .ok (.aload_n 0, 1) := by decide +kernel
theorem dX2_has_10 : decode cX2_has 10 = .ok (.getfield 19, 3) := by decide +kernel
theorem dX2_has_13 : decode cX2_has 13 = .ok (.if_icmp .gt 17, 3) := by decide +kernel
theorem dX2_has_16 : decode cX2_has 16 = .ok (.iload_n 2, 1) := by decide +kernel
theorem dX2_has_17 : decode cX2_has 17 = .ok (.aload_n 0, 1) := by decide +kernel
theorem dX2_has_18 : decode cX2_has 18 = .ok (.getfield 19, 3) := by decide +kernel
theorem dX2_has_21 : decode cX2_has 21 = .ok (.iload_n 1, 1) := by decide +kernel
theorem dX2_has_22 : decode cX2_has 22 = .ok (.isub, 1) := by decide +kernel
theorem dX2_has_23 : decode cX2_has 23 = .ok (.if_icmp .gt 7, 3) := by decide +kernel
theorem dX2_has_26 : decode cX2_has 26 = .ok (.iconst 1, 1) := by decide +kernel
theorem dX2_has_27 : decode cX2_has 27 = .ok (.goto 4, 3) := by decide +kernel
theorem dX2_has_30 : decode cX2_has 30 = .ok (.iconst 0, 1) := by decide +kernel
theorem dX2_has_31 : decode cX2_has 31 = .ok (.ireturn, 1) := by decide +kernel
theorem dX2_put_0 : decode cX2_put 0 = .ok (.aload_n 0, 1) := by decide +kernel
theorem dX2_put_1 : decode cX2_put 1 = .ok (.getfield 15, 3) := by decide +kernel
theorem dX2_put_4 : decode cX2_put 4 = .ok (.bipush 8, 2) := by decide +kernel
theorem dX2_put_6 : decode cX2_put 6 = .ok (.if_icmp .ne 16, 3) := by decide +kernel
theorem dX2_put_9 : decode cX2_put 9 = .ok (.aload_n 0, 1) := by decide +kernel
theorem dX2_put_10 : decode cX2_put 10 = .ok (.getfield 9, 3) := by decide +kernel
theorem dX2_put_13 : decode cX2_put 13 = .ok (.iload_n 1, 1) := by decide +kernel
theorem dX2_put_14 : decode cX2_put 14 = .ok (.lload_n 2, 1) := by decide +kernel
theorem dX2_put_15 : decode cX2_put 15 = .ok (.l2i, 1) := by decide +kernel
theorem dX2_put_16 : decode cX2_put 16 = .ok (.i2b, 1) := by decide +kernel
theorem dX2_put_17 : decode cX2_put 17 = .ok (.i2l, 1) := by decide +kernel
theorem dX2_put_18 : decode cX2_put 18 = .ok (.lastore, 1) := by decide +kernel
theorem dX2_put_19 : decode cX2_put 19 = .ok (.goto 32, 3) := by decide +kernel
theorem dX2_put_22 : decode cX2_put 22 = .ok (.aload_n 0, 1) := by decide +kernel
theorem dX2_put_23 : decode cX2_put 23 = .ok (.getfield 15, 3) := by decide +kernel
theorem dX2_put_26 : decode cX2_put 26 = .ok (.bipush 16, 2) := by decide +kernel
theorem dX2_put_28 : decode cX2_put 28 = .ok (.if_icmp .ne 16, 3) := by decide +kernel
theorem dX2_put_31 : decode cX2_put 31 = .ok (.aload_n 0, 1) := by decide +kernel
theorem dX2_put_32 : decode cX2_put 32 = .ok (.getfield 9, 3) := by decide +kernel
theorem dX2_put_35 : decode cX2_put 35 = .ok (.iload_n 1, 1) := by decide +kernel
theorem dX2_put_36 : decode cX2_put 36 = .ok (.lload_n 2, 1) := by decide +kernel
theorem dX2_put_37 : decode cX2_put 37 = .ok (.l2i, 1) := by decide +kernel
theorem dX2_put_38 : decode cX2_put 38 = .ok (.i2s, 1) := by decide +kernel
theorem dX2_put_39 : decode cX2_put 39 = .ok (.i2l, 1) := by decide +kernel
theorem dX2_put_40 : decode cX2_put 40 = .ok (.lastore, 1) := by decide +kernel
theorem dX2_put_41 : decode cX2_put 41 = .ok (.goto 10, 3) := by decide +kernel
theorem dX2_put_44 : decode cX2_put 44 = .ok (.aload_n 0, 1) := by decide +kernel
theorem dX2_put_45 : decode cX2_put 45 = .ok (.getfield 9, 3) := by decide +kernel
theorem dX2_put_48 : decode cX2_put 48 = .ok (.iload_n 1, 1) := by decide +kernel
theorem dX2_put_49 : decode cX2_put 49 = .ok (.lload_n 2, 1) := by decide +kernel
theorem dX2_put_50 : decode cX2_put 50 = .ok (.lastore, 1) := by decide +kernel
theorem dX2_put_51 : decode cX2_put 51 = .ok (.return_, 1) := by decide +kernel
theorem dX3_init_0 : decode cX3_init 0 = .ok (.aload_n 0, 1) := by decide +kernel
theorem dX3_init_1 : decode cX3_init 1 = .ok (.invokespecial 3, 3) := by decide +kernel
theorem dX3_init_4 : decode cX3_init 4 = .ok (.aload_n 0, 1) := by decide +kernel
theorem dX3_init_5 : decode cX3_init 5 = .ok (.bipush 120, 2) := by decide +kernel
theorem dX3_init_7 : decode cX3_init 7 = .ok (.newarray .byte, 2) := by decide +kernel
theorem dX3_init_9 : decode cX3_init 9 = .ok (.putfield 9, 3) := by decide +kernel
theorem dX3_init_12 : decode cX3_init 12 = .ok (.return_, 1) := by decide +kernel
theorem dX3_add_0 : decode cX3_add 0 = .ok (.aload_n 0, 1) := by decide +kernel
theorem dX3_add_1 : decode cX3_add 1 = .ok (.getfield 15, 3) := by decide +kernel
theorem dX3_add_4 : decode cX3_add 4 = .ok (.bipush 120, 2) := by decide +kernel
theorem dX3_add_6 : decode cX3_add 6 = .ok (.if_icmp .ge 23, 3) := by decide +kernel
theorem dX3_add_9 : decode cX3_add 9 = .ok (.aload_n 0, 1) := by decide +kernel
theorem dX3_add_10 : decode cX3_add 10 = .ok (.getfield 9, 3) := by decide +kernel
theorem dX3_add_13 : decode cX3_add 13 = .ok (.aload_n 0, 1) := by decide +kernel
theorem dX3_add_14 : decode cX3_add 14 = .ok (.getfield 15, 3) := by decide +kernel
theorem dX3_add_17 : decode cX3_add 17 = .ok (.iload_n 1, 1) := by decide +kernel
theorem dX3_add_18 : decode cX3_add 18 = .ok (.bastore, 1) := by decide +kernel
theorem dX3_add_19 : decode cX3_add 19 = .ok (.aload_n 0, 1) := by decide +kernel
theorem dX3_add_20 : decode cX3_add 20 = .ok (.dup, 1) := by decide +kernel
theorem dX3_add_21 : decode cX3_add 21 = .ok (.getfield 15, 3) := by decide +kernel
theorem dX3_add_24 : decode cX3_add 24 = .ok (.iconst 1, 1) := by decide +kernel
theorem dX3_add_25 : decode cX3_add 25 = .ok (.iadd, 1) := by decide +kernel
theorem dX3_add_26 : decode cX3_add 26 = .ok (.putfield 15, 3) := by decide +kernel
theorem dX3_add_29 : decode cX3_add 29 = .ok (.return_, 1) := by decide +kernel
theorem dX3_applyTo_0 : decode cX3_applyTo 0 = .ok (.aload_n 0, 1) := by decide +kernel
theorem dX3_applyTo_1 : decode cX3_applyTo 1 = .ok (.iconst 0, 1) := by decide +kernel
theorem dX3_applyTo_2 : decode cX3_applyTo 2 = .ok (.putfield 19, 3) := by decide +kernel
theorem dX3_applyTo_5 : decode cX3_applyTo 5 = .ok (.aload_n 0, 1) := by decide +kernel
theorem dX3_applyTo_6 : decode cX3_applyTo 6 = .ok (.invokevirtual 22, 3) := by decide +kernel
theorem dX3_applyTo_9 : decode cX3_applyTo 9 = .ok (.iconst 1, 1) := by decide +kernel
theorem dX3_applyTo_10 : decode cX3_applyTo 10 = .ok (.istore_n 2, 1) := by decide +kernel
theorem dX3_applyTo_11 : decode cX3_applyTo 11 = .ok (.iload_n 2, 1) := by decide +kernel
theorem dX3_applyTo_12 : decode cX3_applyTo 12 = .ok (.bipush 120, 2) := by decide +kernel
theorem dX3_applyTo_14 : decode cX3_applyTo 14 = .ok (.if_icmp .gt 52, 3) := by decide +kernel
theorem dX3_applyTo_17 : decode cX3_applyTo 17 = .ok (.aload_n 0, 1) := by decide +kernel
theorem dX3_applyTo_18 : decode cX3_applyTo 18 = .ok (.aload_n 1, 1) := by decide +kernel
theorem dX3_applyTo_19 : decode cX3_applyTo 19 = .ok (.invokevirtual 25, 3) := by decide +kernel
theorem dX3_applyTo_22 : decode cX3_applyTo 22 = .ok (.ifCond .ne 10, 3) := by decide +kernel
theorem dX3_applyTo_25 : decode cX3_applyTo 25 = .ok (.iconst (-1), 1) := by decide +kernel
theorem dX3_applyTo_26 : decode cX3_applyTo 26 = .ok (.aload_n 0, 1) := by decide +kernel
theorem dX3_applyTo_27 : decode cX3_applyTo 27 = .ok (.getfield 29, 3) := by decide +kernel
theorem dX3_applyTo_30 : decode cX3_applyTo 30 = .ok (.isub, 1) := by decide +kernel
theorem dX3_applyTo_31 : decode cX3_applyTo 31 = .ok (.ireturn, 1) := by decide +kernel
theorem dX3_applyTo_32 : decode cX3_applyTo 32 = .ok (.aload_n 0, 1) := by decide +kernel
theorem dX3_applyTo_33 : decode cX3_applyTo 33 = .ok (.getfield 32, 3) := by decide +kernel
theorem dX3_applyTo_36 : decode cX3_applyTo 36 = .ok (.ifCond .ne 5, 3) := by decide +kernel
theorem dX3_applyTo_39 : decode cX3_applyTo 39 = .ok (.iload_n 2, 1) := by decide +kernel
theorem dX3_applyTo_40 : decode cX3_applyTo 40 = .ok (.ireturn, 1) := by decide +kernel
theorem dX3_applyTo_41 : decode cX3_applyTo 41 = .ok (.aload_n 0, 1) := by decide +kernel
theorem dX3_applyTo_42 : decode cX3_applyTo 42 = .ok (.getfield 32, 3) := by decide +kernel
theorem dX3_applyTo_45 : decode cX3_applyTo 45 = .ok (.iconst 3, 1) := by decide +kernel
theorem dX3_applyTo_46 : decode cX3_applyTo 46 = .ok (.if_icmp .eq 10, 3) := by decide +kernel
theorem dX3_applyTo_49 : decode cX3_applyTo 49 = .ok (.iconst (-1), 1) := by decide +kernel
theorem dX3_applyTo_50 : decode cX3_applyTo 50 = .ok (.aload_n 0, 1) := by decide +kernel
theorem dX3_applyTo_51 : decode cX3_applyTo 51 = .ok (.getfield 29, 3) := by decide +kernel
theorem dX3_applyTo_54 : decode cX3_applyTo 54 = .ok (.isub, 1) := by decide +kernel
theorem dX3_applyTo_55 : decode cX3_applyTo 55 = .ok (.ireturn, 1) := by decide +kernel
theorem dX3_applyTo_56 : decode cX3_applyTo 56 = .ok (.aload_n 0, 1) := by decide +kernel
theorem dX3_applyTo_57 : decode cX3_applyTo 57 = .ok (.invokevirtual 22, 3) := by decide +kernel
theorem dX3_applyTo_60 : decode cX3_applyTo 60 = .ok (.iinc 2 1, 3) := by decide +kernel
theorem dX3_applyTo_63 : decode cX3_applyTo 63 = .ok (.goto (-52), 3) := by decide +kernel
theorem dX3_applyTo_66 : decode cX3_applyTo 66 = .ok (.iconst (-1), 1) := by decide +kernel
theorem dX3_applyTo_67 : decode cX3_applyTo 67 = .ok (.aload_n 0, 1) := by decide +kernel
theorem dX3_applyTo_68 : decode cX3_applyTo 68 = .ok (.getfield 29, 3) := by decide +kernel
theorem dX3_applyTo_71 : decode cX3_applyTo 71 = .ok (.isub, 1) := by decide +kernel
theorem dX3_applyTo_72 : decode cX3_applyTo 72 = .ok (.ireturn, 1) := by decide +kernel
theorem dX3_step_0 : decode cX3_step 0 = .ok (.aload_n 0, 1) := by decide +kernel
theorem dX3_step_1 : decode cX3_step 1 = .ok (.aload_n 0, 1) := by decide +kernel
theorem dX3_step_2 : decode cX3_step 2 = .ok (.getfield 19, 3) := by decide +kernel
theorem dX3_step_5 : decode cX3_step 5 = .ok (.putfield 29, 3) := by decide +kernel
theorem dX3_step_8 : decode cX3_step 8 = .ok (.aload_n 0, 1) := by decide +kernel
theorem dX3_step_9 : decode cX3_step 9 = .ok (.getfield 29, 3) := by decide +kernel
theorem dX3_step_12 : decode cX3_step 12 = .ok (.aload_n 0, 1) := by decide +kernel
theorem dX3_step_13 : decode cX3_step 13 = .ok (.getfield 15, 3) := by decide +kernel
theorem dX3_step_16 : decode cX3_step 16 = .ok (.if_icmp .ge 30, 3) := by decide +kernel
theorem dX3_step_19 : decode cX3_step 19 = .ok (.aload_n 0, 1) := by decide +kernel
theorem dX3_step_20 : decode cX3_step 20 = .ok (.getfield 9, 3) := by decide +kernel
theorem dX3_step_23 : decode cX3_step 23 = .ok (.aload_n 0, 1) := by decide +kernel
theorem dX3_step_24 : decode cX3_step 24 = .ok (.getfield 29, 3) := by decide +kernel
theorem dX3_step_27 : decode cX3_step 27 = .ok (.baload, 1) := by decide +kernel
theorem dX3_step_28 : decode cX3_step 28 = .ok (.bipush 32, 2) := by decide +kernel
theorem dX3_step_30 : decode cX3_step 30 = .ok (.if_icmp .ne 16, 3) := by decide +kernel
theorem dX3_step_33 : decode cX3_step 33 = .ok (.aload_n 0, 1) := by decide +kernel
theorem dX3_step_34 : decode cX3_step 34 = .ok (.dup, 1) := by decide +kernel
theorem dX3_step_35 : decode cX3_step 35 = .ok (.getfield 29, 3) := by decide +kernel
theorem dX3_step_38 : decode cX3_step 38 = .ok (.iconst 1, 1) := by decide +kernel
theorem dX3_step_39 : decode cX3_step 39 = .ok (.iadd, 1) := by decide +kernel
theorem dX3_step_40 : decode cX3_step 40 = .ok (.putfield 29, 3) := by decide +kernel
theorem dX3_step_43 : decode cX3_step 43 = .ok (.goto (-35), 3) := by decide +kernel
theorem dX3_step_46 : decode cX3_step 46 = .ok (.aload_n 0, 1) := by decide +kernel
theorem dX3_step_47 : decode cX3_step 47 = .ok (.aload_n 0, 1) := by decide +kernel
theorem dX3_step_48 : decode cX3_step 48 = .ok (.getfield 29, 3) := by decide +kernel
theorem dX3_step_51 : decode cX3_step 51 = .ok (.putfield 19, 3) := by decide +kernel
theorem dX3_step_54 : decode cX3_step 54 = .ok (.aload_n 0, 1) := by decide +kernel
theorem dX3_step_55 : decode cX3_step 55 = .ok (.getfield 29, 3) := by decide +kernel
theorem dX3_step_58 : decode cX3_step 58 = .ok (.aload_n 0, 1) := by decide +kernel
theorem dX3_step_59 : decode cX3_step 59 = .ok (.getfield 15, 3) := by decide +kernel
theorem dX3_step_62 : decode cX3_step 62 = .ok (.if_icmp .lt 11, 3) := by decide +kernel
theorem dX3_step_65 : decode cX3_step 65 = .ok (.aload_n 0, 1) := by decide +kernel
theorem dX3_step_66 : decode cX3_step 66 = .ok (.iconst 0, 1) := by decide +kernel
theorem dX3_step_67 : decode cX3_step 67 = .ok (.putfield 32, 3) := by decide +kernel
theorem dX3_step_70 : decode cX3_step 70 = .ok (.goto 189, 3) := by decide +kernel
theorem dX3_step_73 : decode cX3_step 73 = .ok (.aload_n 0, 1) := by decide +kernel
theorem dX3_step_74 : decode cX3_step 74 = .ok (.getfield 9, 3) := by decide +kernel
theorem dX3_step_77 : decode cX3_step 77 = .ok (.aload_n 0, 1) := by decide +kernel
theorem dX3_step_78 : decode cX3_step 78 = .ok (.getfield 29, 3) := by decide +kernel
theorem dX3_step_81 : decode cX3_step 81 = .ok (.baload, 1) := by decide +kernel
theorem dX3_step_82 : decode cX3_step 82 = .ok (.invokestatic 35, 3) := by decide +kernel
theorem dX3_step_85 : decode cX3_step 85 = .ok (.ifCond .eq 47, 3) := by decide +kernel
theorem dX3_step_88 : decode cX3_step 88 = .ok (.aload_n 0, 1) := by decide +kernel
theorem dX3_step_89 : decode cX3_step 89 = .ok (.iconst 1, 1) := by decide +kernel
theorem dX3_step_90 : decode cX3_step 90 = .ok (.putfield 32, 3) := by decide +kernel
theorem dX3_step_93 : decode cX3_step 93 = .ok (.aload_n 0, 1) := by decide +kernel
theorem dX3_step_94 : decode cX3_step 94 = .ok (.getfield 19, 3) := by decide +kernel
theorem dX3_step_97 : decode cX3_step 97 = .ok (.aload_n 0, 1) := by decide +kernel
theorem dX3_step_98 : decode cX3_step 98 = .ok (.getfield 15, 3) := by decide +kernel
theorem dX3_step_101 : decode cX3_step 101 = .ok (.if_icmp .ge 158, 3) := by decide +kernel
theorem dX3_step_104 : decode cX3_step 104 = .ok (.aload_n 0, 1) := by decide +kernel
theorem dX3_step_105 : decode cX3_step 105 = .ok (.getfield 9, 3) := by decide +kernel
theorem dX3_step_108 : decode cX3_step 108 = .ok (.aload_n 0, 1) := by decide +kernel
theorem dX3_step_109 : decode cX3_step 109 = .ok (.getfield 19, 3) := by decide +kernel
theorem dX3_step_112 : decode cX3_step 112 = .ok (.baload, 1) := by decide +kernel
theorem dX3_step_113 : decode cX3_step 113 = .ok (.invokestatic 35, 3) := by decide +kernel
theorem dX3_step_116 : decode cX3_step 116 = .ok (.ifCond .eq 143, 3) := by decide +kernel
theorem dX3_step_119 : decode cX3_step 119 = .ok (.aload_n 0, 1) := by decide +kernel
theorem dX3_step_120 : decode cX3_step 120 = .ok (.dup, 1) := by decide +kernel
theorem dX3_step_121 : decode cX3_step 121 = .ok (.getfield 19, 3) := by decide +kernel
theorem dX3_step_124 : decode cX3_step 124 = .ok (.iconst 1, 1) := by decide +kernel
theorem dX3_step_125 : decode cX3_step 125 = .ok (.iadd, 1) := by decide +kernel
theorem dX3_step_126 : decode cX3_step 126 = .ok (.putfield 19, 3) := by decide +kernel
theorem dX3_step_129 : decode cX3_step 129 = .ok (.goto (-36), 3) := by decide +kernel
theorem dX3_step_132 : decode cX3_step 132 = .ok (.aload_n 0, 1) := by decide +kernel
theorem dX3_step_133 : decode cX3_step 133 = .ok (.getfield 9, 3) := by decide +kernel
theorem dX3_step_136 : decode cX3_step 136 = .ok (.aload_n 0, 1) := by decide +kernel
theorem dX3_step_137 : decode cX3_step 137 = .ok (.getfield 29, 3) := by decide +kernel
theorem dX3_step_140 : decode cX3_step 140 = .ok (.baload, 1) := by decide +kernel
theorem dX3_step_141 : decode cX3_step 141 = .ok (.invokestatic 39, 3) := by decide +kernel
theorem dX3_step_144 : decode cX3_step 144 = .ok (.ifCond .eq 82, 3) := by decide +kernel
theorem dX3_step_147 : decode cX3_step 147 = .ok (.aload_n 0, 1) := by decide +kernel
theorem dX3_step_148 : decode cX3_step 148 = .ok (.iconst 2, 1) := by decide +kernel
theorem dX3_step_149 : decode cX3_step 149 = .ok (.putfield 32, 3) := by decide +kernel
theorem dX3_step_152 : decode cX3_step 152 = .ok (.aload_n 0, 1) := by decide +kernel
theorem dX3_step_153 : decode cX3_step 153 = .ok (.iconst 0, 1) := by decide +kernel
theorem dX3_step_154 : decode cX3_step 154 = .ok (.putfield 42, 3) := by decide +kernel
theorem dX3_step_157 : decode cX3_step 157 = .ok (.aload_n 0, 1) := by decide +kernel
theorem dX3_step_158 : decode cX3_step 158 = .ok (.getfield 19, 3) := by decide +kernel
theorem dX3_step_161 : decode cX3_step 161 = .ok (.aload_n 0, 1) := by decide +kernel
theorem dX3_step_162 : decode cX3_step 162 = .ok (.getfield 15, 3) := by decide +kernel
theorem dX3_step_165 : decode cX3_step 165 = .ok (.if_icmp .ge 94, 3) := by decide +kernel
theorem dX3_step_168 : decode cX3_step 168 = .ok (.aload_n 0, 1) := by decide +kernel
theorem dX3_step_169 : decode cX3_step 169 = .ok (.getfield 9, 3) := by decide +kernel
theorem dX3_step_172 : decode cX3_step 172 = .ok (.aload_n 0, 1) := by decide +kernel
theorem dX3_step_173 : decode cX3_step 173 = .ok (.getfield 19, 3) := by decide +kernel
theorem dX3_step_176 : decode cX3_step 176 = .ok (.baload, 1) := by decide +kernel
theorem dX3_step_177 : decode cX3_step 177 = .ok (.invokestatic 39, 3) := by decide +kernel
theorem dX3_step_180 : decode cX3_step 180 = .ok (.ifCond .eq 79, 3) := by decide +kernel
theorem dX3_step_183 : decode cX3_step 183 = .ok (.aload_n 0, 1) := by decide +kernel
theorem dX3_step_184 : decode cX3_step 184 = .ok (.sipush 10000, 3) := by decide +kernel
theorem dX3_step_187 : decode cX3_step 187 = .ok (.bipush 10, 2) := by decide +kernel
theorem dX3_step_189 : decode cX3_step 189 = .ok (.aload_n 0, 1) := by decide +kernel
theorem dX3_step_190 : decode cX3_step 190 = .ok (.getfield 42, 3) := by decide +kernel
theorem dX3_step_193 : decode cX3_step 193 = .ok (.imul, 1) := by decide +kernel
theorem dX3_step_194 : decode cX3_step 194 = .ok (.aload_n 0, 1) := by decide +kernel
theorem dX3_step_195 : decode cX3_step 195 = .ok (.getfield 9, 3) := by decide +kernel
theorem dX3_step_198 : decode cX3_step 198 = .ok (.aload_n 0, 1) := by decide +kernel
theorem dX3_step_199 : decode cX3_step 199 = .ok (.getfield 19, 3) := by decide +kernel
theorem dX3_step_202 : decode cX3_step 202 = .ok (.baload, 1) := by decide +kernel
theorem dX3_step_203 : decode cX3_step 203 = .ok (.iadd, 1) := by decide +kernel
theorem dX3_step_204 : decode cX3_step 204 = .ok (.bipush 48, 2) := by decide +kernel
theorem dX3_step_206 : decode cX3_step 206 = .ok (.isub, 1) := by decide +kernel
theorem dX3_step_207 : decode cX3_step 207 = .ok (.invokestatic 45, 3) := by decide +kernel
theorem dX3_step_210 : decode cX3_step 210 = .ok (.putfield 42, 3) := by decide +kernel
theorem dX3_step_213 : decode cX3_step 213 = .ok (.aload_n 0, 1) := by decide +kernel
theorem dX3_step_214 : decode cX3_step 214 = .ok (.dup, 1) := by decide +kernel
theorem dX3_step_215 : decode cX3_step 215 = .ok (.getfield 19, 3) := by decide +kernel
theorem dX3_step_218 : decode cX3_step 218 = .ok (.iconst 1, 1) := by decide +kernel
theorem dX3_step_219 : decode cX3_step 219 = .ok (.iadd, 1) := by decide +kernel
theorem dX3_step_220 : decode cX3_step 220 = .ok (.putfield 19, 3) := by decide +kernel
theorem dX3_step_223 : decode cX3_step 223 = .ok (.goto (-66), 3) := by decide +kernel
theorem dX3_step_226 : decode cX3_step 226 = .ok (.aload_n 0, 1) := by decide +kernel
theorem dX3_step_227 : decode cX3_step 227 = .ok (.aload_n 0, 1) := by decide +kernel
theorem dX3_step_228 : decode cX3_step 228 = .ok (.getfield 9, 3) := by decide +kernel
theorem dX3_step_231 : decode cX3_step 231 = .ok (.aload_n 0, 1) := by decide +kernel
theorem dX3_step_232 : decode cX3_step 232 = .ok (.getfield 29, 3) := by decide +kernel
theorem dX3_step_235 : decode cX3_step 235 = .ok (.baload, 1) := by decide +kernel
theorem dX3_step_236 : decode cX3_step 236 = .ok (.bipush 59, 2) := by decide +kernel
theorem dX3_step_238 : decode cX3_step 238 = .ok (.if_icmp .ne 7, 3) := by decide +kernel
theorem dX3_step_241 : decode cX3_step 241 = .ok (.iconst 3, 1) := by decide +kernel
theorem dX3_step_242 : decode cX3_step 242 = .ok (.goto 4, 3) := by decide +kernel
theorem dX3_step_245 : decode cX3_step 245 = .ok (.iconst 4, 1) := by decide +kernel
theorem dX3_step_246 : decode cX3_step 246 = .ok (.putfield 32, 3) := by decide +kernel
theorem dX3_step_249 : decode cX3_step 249 = .ok (.aload_n 0, 1) := by decide +kernel
theorem dX3_step_250 : decode cX3_step 250 = .ok (.dup, 1) := by decide +kernel
theorem dX3_step_251 : decode cX3_step 251 = .ok (.getfield 19, 3) := by decide +kernel
theorem dX3_step_254 : decode cX3_step 254 = .ok (.iconst 1, 1) := by decide +kernel
theorem dX3_step_255 : decode cX3_step 255 = .ok (.iadd, 1) := by decide +kernel
theorem dX3_step_256 : decode cX3_step 256 = .ok (.putfield 19, 3) := by decide +kernel
theorem dX3_step_259 : decode cX3_step 259 = .ok (.return_, 1) := by decide +kernel
theorem dX3_isLetter_0 : decode cX3_isLetter 0 = .ok (.iload_n 0, 1) := by decide +kernel
theorem dX3_isLetter_1 : decode cX3_isLetter 1 = .ok (.bipush 97, 2) := by decide +kernel
theorem dX3_isLetter_3 : decode cX3_isLetter 3 = .ok (.if_icmp .lt 13, 3) := by decide +kernel
theorem dX3_isLetter_6 : decode cX3_isLetter 6 = .ok (.iload_n 0, 1) := by decide +kernel
theorem dX3_isLetter_7 : decode cX3_isLetter 7 = .ok (.bipush 122, 2) := by decide +kernel
theorem dX3_isLetter_9 : decode cX3_isLetter 9 = .ok (.if_icmp .gt 7, 3) := by decide +kernel
theorem dX3_isLetter_12 : decode cX3_isLetter 12 = .ok (.iconst 1, 1) := by decide +kernel
theorem dX3_isLetter_13 : decode cX3_isLetter 13 = .ok (.goto 4, 3) := by decide +kernel
theorem dX3_isLetter_16 : decode cX3_isLetter 16 = .ok (.iconst 0, 1) := by decide +kernel
theorem dX3_isLetter_17 : decode cX3_isLetter 17 = .ok (.ireturn, 1) := by decide +kernel
theorem dX3_isDigit_0 : decode cX3_isDigit 0 = .ok (.iload_n 0, 1) := by decide +kernel
theorem dX3_isDigit_1 : decode cX3_isDigit 1 = .ok (.bipush 48, 2) := by decide +kernel
theorem dX3_isDigit_3 : decode cX3_isDigit 3 = .ok (.if_icmp .lt 13, 3) := by decide +kernel
theorem dX3_isDigit_6 : decode cX3_isDigit 6 = .ok (.iload_n 0, 1) := by decide +kernel
theorem dX3_isDigit_7 : decode cX3_isDigit 7 = .ok (.bipush 57, 2) := by decide +kernel
theorem dX3_isDigit_9 : decode cX3_isDigit 9 = .ok (.if_icmp .gt 7, 3) := by decide +kernel
theorem dX3_isDigit_12 : decode cX3_isDigit 12 = .ok (.iconst 1, 1) := by decide +kernel
theorem dX3_isDigit_13 : decode cX3_isDigit 13 = .ok (.goto 4, 3) := by decide +kernel
theorem dX3_isDigit_16 : decode cX3_isDigit 16 = .ok (.iconst 0, 1) := by decide +kernel
theorem dX3_isDigit_17 : decode cX3_isDigit 17 = .ok (.ireturn, 1) := by decide +kernel
theorem dX3_isWord_0 : decode cX3_isWord 0 = .ok (.aload_n 0, 1) := by decide +kernel
theorem dX3_isWord_1 : decode cX3_isWord 1 = .ok (.getfield 32, 3) := by decide +kernel
theorem dX3_isWord_4 : decode cX3_isWord 4 = .ok (.iconst 1, 1) := by decide +kernel
theorem dX3_isWord_5 : decode cX3_isWord 5 = .ok (.if_icmp .ne 19, 3) := by decide +kernel
theorem dX3_isWord_8 : decode cX3_isWord 8 = .ok (.aload_n 0, 1) := by decide +kernel
theorem dX3_isWord_9 : decode cX3_isWord 9 = .ok (.getfield 19, 3) := by decide +kernel
theorem dX3_isWord_12 : decode cX3_isWord 12 = .ok (.aload_n 0, 1) := by decide +kernel
theorem dX3_isWord_13 : decode cX3_isWord 13 = .ok (.getfield 29, 3) := by decide +kernel
theorem dX3_isWord_16 : decode cX3_isWord 16 = .ok (.isub, 1) := by decide +kernel
theorem dX3_isWord_17 : decode cX3_isWord 17 = .ok (.aload_n 1, 1) := by decide +kernel
theorem dX3_isWord_18 : decode cX3_isWord 18 = .ok (.invokevirtual 51, 3) := by decide +kernel
theorem dX3_isWord_21 : decode cX3_isWord 21 = .ok (.if_icmp .eq 5, 3) := by decide +kernel
theorem dX3_isWord_24 : decode cX3_isWord 24 = .ok (.iconst 0, 1) := by decide +kernel
theorem dX3_isWord_25 : decode cX3_isWord 25 = .ok (.ireturn, 1) := by decide +kernel
theorem dX3_isWord_26 : decode cX3_isWord 26 = .ok (.iconst 0, 1) := by decide +kernel
theorem dX3_isWord_27 : decode cX3_isWord 27 = .ok (.istore_n 2, 1) := by decide +kernel
theorem dX3_isWord_28 : decode cX3_isWord 28 = .ok (.iload_n 2, 1) := by decide +kernel
theorem dX3_isWord_29 : decode cX3_isWord 29 = .ok (.aload_n 1, 1) := by decide +kernel
theorem dX3_isWord_30 : decode cX3_isWord 30 = .ok (.invokevirtual 51, 3) := by decide +kernel
theorem dX3_isWord_33 : decode cX3_isWord 33 = .ok (.if_icmp .ge 30, 3) := by decide +kernel
theorem dX3_isWord_36 : decode cX3_isWord 36 = .ok (.aload_n 0, 1) := by decide +kernel
theorem dX3_isWord_37 : decode cX3_isWord 37 = .ok (.getfield 9, 3) := by decide +kernel
theorem dX3_isWord_40 : decode cX3_isWord 40 = .ok (.aload_n 0, 1) := by decide +kernel
theorem dX3_isWord_41 : decode cX3_isWord 41 = .ok (.getfield 29, 3) := by decide +kernel
theorem dX3_isWord_44 : decode cX3_isWord 44 = .ok (.iload_n 2, 1) := by decide +kernel
theorem dX3_isWord_45 : decode cX3_isWord 45 = .ok (.iadd, 1) := by decide +kernel
theorem dX3_isWord_46 : decode cX3_isWord 46 = .ok (.baload, 1) := by decide +kernel
theorem dX3_isWord_47 : decode cX3_isWord 47 = .ok (.aload_n 1, 1) := by decide +kernel
theorem dX3_isWord_48 : decode cX3_isWord 48 = .ok (.iload_n 2, 1) := by decide +kernel
theorem dX3_isWord_49 : decode cX3_isWord 49 = .ok (.invokevirtual 57, 3) := by decide +kernel
theorem dX3_isWord_52 : decode cX3_isWord 52 = .ok (.if_icmp .eq 5, 3) := by decide +kernel
theorem dX3_isWord_55 : decode cX3_isWord 55 = .ok (.iconst 0, 1) := by decide +kernel
theorem dX3_isWord_56 : decode cX3_isWord 56 = .ok (.ireturn, 1) := by decide +kernel
theorem dX3_isWord_57 : decode cX3_isWord 57 = .ok (.iinc 2 1, 3) := by decide +kernel
theorem dX3_isWord_60 : decode cX3_isWord 60 = .ok (.goto (-32), 3) := by decide +kernel
theorem dX3_isWord_63 : decode cX3_isWord 63 = .ok (.iconst 1, 1) := by decide +kernel
theorem dX3_isWord_64 : decode cX3_isWord 64 = .ok (.ireturn, 1) := by decide +kernel
theorem dX3_kindNamed_0 : decode cX3_kindNamed 0 = .ok (.iconst 0, 1) := by decide +kernel
theorem dX3_kindNamed_1 : decode cX3_kindNamed 1 = .ok (.istore_n 1, 1) := by decide +kernel
theorem dX3_kindNamed_2 : decode cX3_kindNamed 2 = .ok (.iload_n 1, 1) := by decide +kernel
theorem dX3_kindNamed_3 : decode cX3_kindNamed 3 = .ok (.bipush 6, 2) := by decide +kernel
theorem dX3_kindNamed_5 : decode cX3_kindNamed 5 = .ok (.if_icmp .ge 22, 3) := by decide +kernel
theorem dX3_kindNamed_8 : decode cX3_kindNamed 8 = .ok (.aload_n 0, 1) := by decide +kernel
theorem dX3_kindNamed_9 : decode cX3_kindNamed 9 = .ok (.iload_n 1, 1) := by decide +kernel
theorem dX3_kindNamed_10 : decode cX3_kindNamed 10 = .ok (.invokestatic 61, 3) := by decide +kernel
theorem dX3_kindNamed_13 : decode cX3_kindNamed 13 = .ok (.invokevirtual 65, 3) := by decide +kernel
theorem dX3_kindNamed_16 : decode cX3_kindNamed 16 = .ok (.ifCond .eq 5, 3) := by decide +kernel
theorem dX3_kindNamed_19 : decode cX3_kindNamed 19 = .ok (.iload_n 1, 1) := by decide +kernel
theorem dX3_kindNamed_20 : decode cX3_kindNamed 20 = .ok (.ireturn, 1) := by decide +kernel
theorem dX3_kindNamed_21 : decode cX3_kindNamed 21 = .ok (.iinc 1 1, 3) := by decide +kernel
theorem dX3_kindNamed_24 : decode cX3_kindNamed 24 = .ok (.goto (-22), 3) := by decide +kernel
theorem dX3_kindNamed_27 : decode cX3_kindNamed 27 = .ok (.iconst (-1), 1) := by decide +kernel
theorem dX3_kindNamed_28 : decode cX3_kindNamed 28 = .ok (.ireturn, 1) := by decide +kernel
theorem dX3_nameOfKind_0 : decode cX3_nameOfKind 0 = .ok (.iload_n 0, 1) := by decide +kernel
theorem dX3_nameOfKind_1 : decode cX3_nameOfKind 1 = .ok (.tableswitch 50 1 5 #[35, 38, 41, 44, 47], 35) := by decide +kernel
theorem dX3_nameOfKind_36 : decode cX3_nameOfKind 36 = .ok (.ldc 69, 2) := by decide +kernel
theorem dX3_nameOfKind_38 : decode cX3_nameOfKind 38 = .ok (.areturn, 1) := by decide +kernel
theorem dX3_nameOfKind_39 : decode cX3_nameOfKind 39 = .ok (.ldc 71, 2) := by decide +kernel
theorem dX3_nameOfKind_41 : decode cX3_nameOfKind 41 = .ok (.areturn, 1) := by decide +kernel
theorem dX3_nameOfKind_42 : decode cX3_nameOfKind 42 = .ok (.ldc 73, 2) := by decide +kernel
theorem dX3_nameOfKind_44 : decode cX3_nameOfKind 44 = .ok (.areturn, 1) := by decide +kernel
theorem dX3_nameOfKind_45 : decode cX3_nameOfKind 45 = .ok (.ldc 75, 2) := by decide +kernel
theorem dX3_nameOfKind_47 : decode cX3_nameOfKind 47 = .ok (.areturn, 1) := by decide +kernel
theorem dX3_nameOfKind_48 : decode cX3_nameOfKind 48 = .ok (.ldc 77, 2) := by decide +kernel
theorem dX3_nameOfKind_50 : decode cX3_nameOfKind 50 = .ok (.areturn, 1) := by decide +kernel
theorem dX3_nameOfKind_51 : decode cX3_nameOfKind 51 = .ok (.ldc 79, 2) := by decide +kernel
theorem dX3_nameOfKind_53 : decode cX3_nameOfKind 53 = .ok (.areturn, 1) := by decide +kernel
theorem dX3_takeNumber_0 : decode cX3_takeNumber 0 = .ok (.aload_n 0, 1) := by decide +kernel
theorem dX3_takeNumber_1 : decode cX3_takeNumber 1 = .ok (.getfield 32, 3) := by decide +kernel
theorem dX3_takeNumber_4 : decode cX3_takeNumber 4 = .ok (.iconst 2, 1) := by decide +kernel
theorem dX3_takeNumber_5 : decode cX3_takeNumber 5 = .ok (.if_icmp .ne 11, 3) := by decide +kernel
theorem dX3_takeNumber_8 : decode cX3_takeNumber 8 = .ok (.aload_n 0, 1) := by decide +kernel
theorem dX3_takeNumber_9 : decode cX3_takeNumber 9 = .ok (.getfield 42, 3) := by decide +kernel
theorem dX3_takeNumber_12 : decode cX3_takeNumber 12 = .ok (.iload_n 1, 1) := by decide +kernel
theorem dX3_takeNumber_13 : decode cX3_takeNumber 13 = .ok (.if_icmp .le 5, 3) := by decide +kernel
theorem dX3_takeNumber_16 : decode cX3_takeNumber 16 = .ok (.iconst (-1), 1) := by decide +kernel
theorem dX3_takeNumber_17 : decode cX3_takeNumber 17 = .ok (.ireturn, 1) := by decide +kernel
theorem dX3_takeNumber_18 : decode cX3_takeNumber 18 = .ok (.aload_n 0, 1) := by decide +kernel
theorem dX3_takeNumber_19 : decode cX3_takeNumber 19 = .ok (.getfield 42, 3) := by decide +kernel
theorem dX3_takeNumber_22 : decode cX3_takeNumber 22 = .ok (.istore_n 2, 1) := by decide +kernel
theorem dX3_takeNumber_23 : decode cX3_takeNumber 23 = .ok (.aload_n 0, 1) := by decide +kernel
theorem dX3_takeNumber_24 : decode cX3_takeNumber 24 = .ok (.invokevirtual 22, 3) := by decide +kernel
theorem dX3_takeNumber_27 : decode cX3_takeNumber 27 = .ok (.iload_n 2, 1) := by decide +kernel
theorem dX3_takeNumber_28 : decode cX3_takeNumber 28 = .ok (.ireturn, 1) := by decide +kernel
theorem dX3_takeItem_0 : decode cX3_takeItem 0 = .ok (.aload_n 0, 1) := by decide +kernel
theorem dX3_takeItem_1 : decode cX3_takeItem 1 = .ok (.invokevirtual 81, 3) := by decide +kernel
theorem dX3_takeItem_4 : decode cX3_takeItem 4 = .ok (.istore_n 2, 1) := by decide +kernel
theorem dX3_takeItem_5 : decode cX3_takeItem 5 = .ok (.iload_n 2, 1) := by decide +kernel
theorem dX3_takeItem_6 : decode cX3_takeItem 6 = .ok (.ifCond .lt 10, 3) := by decide +kernel
theorem dX3_takeItem_9 : decode cX3_takeItem 9 = .ok (.aload_n 0, 1) := by decide +kernel
theorem dX3_takeItem_10 : decode cX3_takeItem 10 = .ok (.aload_n 1, 1) := by decide +kernel
theorem dX3_takeItem_11 : decode cX3_takeItem 11 = .ok (.iload_n 2, 1) := by decide +kernel
theorem dX3_takeItem_12 : decode cX3_takeItem 12 = .ok (.invokevirtual 84, 3) := by decide +kernel
theorem dX3_takeItem_15 : decode cX3_takeItem 15 = .ok (.ireturn, 1) := by decide +kernel
theorem dX3_takeItem_16 : decode cX3_takeItem 16 = .ok (.aload_n 0, 1) := by decide +kernel
theorem dX3_takeItem_17 : decode cX3_takeItem 17 = .ok (.ldc 88, 2) := by decide +kernel
theorem dX3_takeItem_19 : decode cX3_takeItem 19 = .ok (.invokevirtual 65, 3) := by decide +kernel
theorem dX3_takeItem_22 : decode cX3_takeItem 22 = .ok (.ifCond .eq 10, 3) := by decide +kernel
theorem dX3_takeItem_25 : decode cX3_takeItem 25 = .ok (.aload_n 0, 1) := by decide +kernel
theorem dX3_takeItem_26 : decode cX3_takeItem 26 = .ok (.aload_n 1, 1) := by decide +kernel
theorem dX3_takeItem_27 : decode cX3_takeItem 27 = .ok (.iconst (-1), 1) := by decide +kernel
theorem dX3_takeItem_28 : decode cX3_takeItem 28 = .ok (.invokevirtual 90, 3) := by decide +kernel
theorem dX3_takeItem_31 : decode cX3_takeItem 31 = .ok (.ireturn, 1) := by decide +kernel
theorem dX3_takeItem_32 : decode cX3_takeItem 32 = .ok (.aload_n 0, 1) := by decide +kernel
theorem dX3_takeItem_33 : decode cX3_takeItem 33 = .ok (.ldc 93, 2) := by decide +kernel
theorem dX3_takeItem_35 : decode cX3_takeItem 35 = .ok (.invokevirtual 65, 3) := by decide +kernel
theorem dX3_takeItem_38 : decode cX3_takeItem 38 = .ok (.ifCond .eq 10, 3) := by decide +kernel
theorem dX3_takeItem_41 : decode cX3_takeItem 41 = .ok (.aload_n 0, 1) := by decide +kernel
theorem dX3_takeItem_42 : decode cX3_takeItem 42 = .ok (.aload_n 1, 1) := by decide +kernel
theorem dX3_takeItem_43 : decode cX3_takeItem 43 = .ok (.iconst 1, 1) := by decide +kernel
theorem dX3_takeItem_44 : decode cX3_takeItem 44 = .ok (.invokevirtual 90, 3) := by decide +kernel
theorem dX3_takeItem_47 : decode cX3_takeItem 47 = .ok (.ireturn, 1) := by decide +kernel
theorem dX3_takeItem_48 : decode cX3_takeItem 48 = .ok (.aload_n 0, 1) := by decide +kernel
theorem dX3_takeItem_49 : decode cX3_takeItem 49 = .ok (.ldc 95, 2) := by decide +kernel
theorem dX3_takeItem_51 : decode cX3_takeItem 51 = .ok (.invokevirtual 65, 3) := by decide +kernel
theorem dX3_takeItem_54 : decode cX3_takeItem 54 = .ok (.ifCond .eq 9, 3) := by decide +kernel
theorem dX3_takeItem_57 : decode cX3_takeItem 57 = .ok (.aload_n 0, 1) := by decide +kernel
theorem dX3_takeItem_58 : decode cX3_takeItem 58 = .ok (.aload_n 1, 1) := by decide +kernel
theorem dX3_takeItem_59 : decode cX3_takeItem 59 = .ok (.invokevirtual 97, 3) := by decide +kernel
theorem dX3_takeItem_62 : decode cX3_takeItem 62 = .ok (.ireturn, 1) := by decide +kernel
theorem dX3_takeItem_63 : decode cX3_takeItem 63 = .ok (.aload_n 0, 1) := by decide +kernel
theorem dX3_takeItem_64 : decode cX3_takeItem 64 = .ok (.ldc 100, 2) := by decide +kernel
theorem dX3_takeItem_66 : decode cX3_takeItem 66 = .ok (.invokevirtual 65, 3) := by decide +kernel
theorem dX3_takeItem_69 : decode cX3_takeItem 69 = .ok (.ifCond .eq 15, 3) := by decide +kernel
theorem dX3_takeItem_72 : decode cX3_takeItem 72 = .ok (.aload_n 0, 1) := by decide +kernel
theorem dX3_takeItem_73 : decode cX3_takeItem 73 = .ok (.aload_n 1, 1) := by decide +kernel
theorem dX3_takeItem_74 : decode cX3_takeItem 74 = .ok (.invokevirtual 102, 3) := by decide +kernel
theorem dX3_takeItem_77 : decode cX3_takeItem 77 = .ok (.ifCond .eq 7, 3) := by decide +kernel
theorem dX3_takeItem_80 : decode cX3_takeItem 80 = .ok (.iconst 1, 1) := by decide +kernel
theorem dX3_takeItem_81 : decode cX3_takeItem 81 = .ok (.goto 4, 3) := by decide +kernel
theorem dX3_takeItem_84 : decode cX3_takeItem 84 = .ok (.iconst 0, 1) := by decide +kernel
theorem dX3_takeItem_85 : decode cX3_takeItem 85 = .ok (.ireturn, 1) := by decide +kernel
theorem dX3_takeEwe_0 : decode cX3_takeEwe 0 = .ok (.aload_n 1, 1) := by decide +kernel
theorem dX3_takeEwe_1 : decode cX3_takeEwe 1 = .ok (.invokevirtual 105, 3) := by decide +kernel
theorem dX3_takeEwe_4 : decode cX3_takeEwe 4 = .ok (.ifCond .eq 5, 3) := by decide +kernel
theorem dX3_takeEwe_7 : decode cX3_takeEwe 7 = .ok (.iconst 0, 1) := by decide +kernel
theorem dX3_takeEwe_8 : decode cX3_takeEwe 8 = .ok (.ireturn, 1) := by decide +kernel
theorem dX3_takeEwe_9 : decode cX3_takeEwe 9 = .ok (.aload_n 0, 1) := by decide +kernel
theorem dX3_takeEwe_10 : decode cX3_takeEwe 10 = .ok (.invokevirtual 22, 3) := by decide +kernel
theorem dX3_takeEwe_13 : decode cX3_takeEwe 13 = .ok (.iconst 0, 1) := by decide +kernel
theorem dX3_takeEwe_14 : decode cX3_takeEwe 14 = .ok (.istore_n 3, 1) := by decide +kernel
theorem dX3_takeEwe_15 : decode cX3_takeEwe 15 = .ok (.aload_n 0, 1) := by decide +kernel
theorem dX3_takeEwe_16 : decode cX3_takeEwe 16 = .ok (.ldc 111, 2) := by decide +kernel
theorem dX3_takeEwe_18 : decode cX3_takeEwe 18 = .ok (.invokevirtual 65, 3) := by decide +kernel
theorem dX3_takeEwe_21 : decode cX3_takeEwe 21 = .ok (.ifCond .eq 14, 3) := by decide +kernel
theorem dX3_takeEwe_24 : decode cX3_takeEwe 24 = .ok (.aload_n 0, 1) := by decide +kernel
theorem dX3_takeEwe_25 : decode cX3_takeEwe 25 = .ok (.invokevirtual 22, 3) := by decide +kernel
theorem dX3_takeEwe_28 : decode cX3_takeEwe 28 = .ok (.aload_n 0, 1) := by decide +kernel
theorem dX3_takeEwe_29 : decode cX3_takeEwe 29 = .ok (.bipush 99, 2) := by decide +kernel
theorem dX3_takeEwe_31 : decode cX3_takeEwe 31 = .ok (.invokevirtual 113, 3) := by decide +kernel
theorem dX3_takeEwe_34 : decode cX3_takeEwe 34 = .ok (.istore_n 3, 1) := by decide +kernel
theorem dX3_takeEwe_35 : decode cX3_takeEwe 35 = .ok (.iload_n 3, 1) := by decide +kernel
theorem dX3_takeEwe_36 : decode cX3_takeEwe 36 = .ok (.ifCond .ge 5, 3) := by decide +kernel
theorem dX3_takeEwe_39 : decode cX3_takeEwe 39 = .ok (.iconst 0, 1) := by decide +kernel
theorem dX3_takeEwe_40 : decode cX3_takeEwe 40 = .ok (.ireturn, 1) := by decide +kernel
theorem dX3_takeEwe_41 : decode cX3_takeEwe 41 = .ok (.aload_n 1, 1) := by decide +kernel
theorem dX3_takeEwe_42 : decode cX3_takeEwe 42 = .ok (.iload_n 2, 1) := by decide +kernel
theorem dX3_takeEwe_43 : decode cX3_takeEwe 43 = .ok (.iload_n 3, 1) := by decide +kernel
theorem dX3_takeEwe_44 : decode cX3_takeEwe 44 = .ok (.invokevirtual 117, 3) := by decide +kernel
theorem dX3_takeEwe_47 : decode cX3_takeEwe 47 = .ok (.iconst 1, 1) := by decide +kernel
theorem dX3_takeEwe_48 : decode cX3_takeEwe 48 = .ok (.ireturn, 1) := by decide +kernel
theorem dX3_takeWeather_0 : decode cX3_takeWeather 0 = .ok (.aload_n 0, 1) := by decide +kernel
theorem dX3_takeWeather_1 : decode cX3_takeWeather 1 = .ok (.invokevirtual 22, 3) := by decide +kernel
theorem dX3_takeWeather_4 : decode cX3_takeWeather 4 = .ok (.aload_n 0, 1) := by decide +kernel
theorem dX3_takeWeather_5 : decode cX3_takeWeather 5 = .ok (.bipush 11, 2) := by decide +kernel
theorem dX3_takeWeather_7 : decode cX3_takeWeather 7 = .ok (.invokevirtual 113, 3) := by decide +kernel
theorem dX3_takeWeather_10 : decode cX3_takeWeather 10 = .ok (.istore_n 3, 1) := by decide +kernel
theorem dX3_takeWeather_11 : decode cX3_takeWeather 11 = .ok (.iload_n 3, 1) := by decide +kernel
theorem dX3_takeWeather_12 : decode cX3_takeWeather 12 = .ok (.ifCond .ge 5, 3) := by decide +kernel
theorem dX3_takeWeather_15 : decode cX3_takeWeather 15 = .ok (.iconst 0, 1) := by decide +kernel
theorem dX3_takeWeather_16 : decode cX3_takeWeather 16 = .ok (.ireturn, 1) := by decide +kernel
theorem dX3_takeWeather_17 : decode cX3_takeWeather 17 = .ok (.aload_n 0, 1) := by decide +kernel
theorem dX3_takeWeather_18 : decode cX3_takeWeather 18 = .ok (.bipush 20, 2) := by decide +kernel
theorem dX3_takeWeather_20 : decode cX3_takeWeather 20 = .ok (.invokevirtual 113, 3) := by decide +kernel
theorem dX3_takeWeather_23 : decode cX3_takeWeather 23 = .ok (.istore 4, 2) := by decide +kernel
theorem dX3_takeWeather_25 : decode cX3_takeWeather 25 = .ok (.iload 4, 2) := by decide +kernel
theorem dX3_takeWeather_27 : decode cX3_takeWeather 27 = .ok (.ifCond .ge 5, 3) := by decide +kernel
theorem dX3_takeWeather_30 : decode cX3_takeWeather 30 = .ok (.iconst 0, 1) := by decide +kernel
theorem dX3_takeWeather_31 : decode cX3_takeWeather 31 = .ok (.ireturn, 1) := by decide +kernel
theorem dX3_takeWeather_32 : decode cX3_takeWeather 32 = .ok (.aload_n 1, 1) := by decide +kernel
theorem dX3_takeWeather_33 : decode cX3_takeWeather 33 = .ok (.getfield 121, 3) := by decide +kernel
theorem dX3_takeWeather_36 : decode cX3_takeWeather 36 = .ok (.iload_n 3, 1) := by decide +kernel
theorem dX3_takeWeather_37 : decode cX3_takeWeather 37 = .ok (.iload_n 2, 1) := by decide +kernel
theorem dX3_takeWeather_38 : decode cX3_takeWeather 38 = .ok (.iload 4, 2) := by decide +kernel
theorem dX3_takeWeather_40 : decode cX3_takeWeather 40 = .ok (.imul, 1) := by decide +kernel
theorem dX3_takeWeather_41 : decode cX3_takeWeather 41 = .ok (.iastore, 1) := by decide +kernel
theorem dX3_takeWeather_42 : decode cX3_takeWeather 42 = .ok (.iconst 1, 1) := by decide +kernel
theorem dX3_takeWeather_43 : decode cX3_takeWeather 43 = .ok (.ireturn, 1) := by decide +kernel
theorem dX3_takeCut_0 : decode cX3_takeCut 0 = .ok (.aload_n 0, 1) := by decide +kernel
theorem dX3_takeCut_1 : decode cX3_takeCut 1 = .ok (.invokevirtual 22, 3) := by decide +kernel
theorem dX3_takeCut_4 : decode cX3_takeCut 4 = .ok (.aload_n 0, 1) := by decide +kernel
theorem dX3_takeCut_5 : decode cX3_takeCut 5 = .ok (.iconst 3, 1) := by decide +kernel
theorem dX3_takeCut_6 : decode cX3_takeCut 6 = .ok (.invokevirtual 113, 3) := by decide +kernel
theorem dX3_takeCut_9 : decode cX3_takeCut 9 = .ok (.istore_n 2, 1) := by decide +kernel
theorem dX3_takeCut_10 : decode cX3_takeCut 10 = .ok (.iload_n 2, 1) := by decide +kernel
theorem dX3_takeCut_11 : decode cX3_takeCut 11 = .ok (.ifCond .ge 5, 3) := by decide +kernel
theorem dX3_takeCut_14 : decode cX3_takeCut 14 = .ok (.iconst 0, 1) := by decide +kernel
theorem dX3_takeCut_15 : decode cX3_takeCut 15 = .ok (.ireturn, 1) := by decide +kernel
theorem dX3_takeCut_16 : decode cX3_takeCut 16 = .ok (.aload_n 0, 1) := by decide +kernel
theorem dX3_takeCut_17 : decode cX3_takeCut 17 = .ok (.bipush 11, 2) := by decide +kernel
theorem dX3_takeCut_19 : decode cX3_takeCut 19 = .ok (.invokevirtual 113, 3) := by decide +kernel
theorem dX3_takeCut_22 : decode cX3_takeCut 22 = .ok (.istore_n 3, 1) := by decide +kernel
theorem dX3_takeCut_23 : decode cX3_takeCut 23 = .ok (.iload_n 3, 1) := by decide +kernel
theorem dX3_takeCut_24 : decode cX3_takeCut 24 = .ok (.ifCond .ge 5, 3) := by decide +kernel
theorem dX3_takeCut_27 : decode cX3_takeCut 27 = .ok (.iconst 0, 1) := by decide +kernel
theorem dX3_takeCut_28 : decode cX3_takeCut 28 = .ok (.ireturn, 1) := by decide +kernel
theorem dX3_takeCut_29 : decode cX3_takeCut 29 = .ok (.aload_n 0, 1) := by decide +kernel
theorem dX3_takeCut_30 : decode cX3_takeCut 30 = .ok (.aload_n 1, 1) := by decide +kernel
theorem dX3_takeCut_31 : decode cX3_takeCut 31 = .ok (.getfield 125, 3) := by decide +kernel
theorem dX3_takeCut_34 : decode cX3_takeCut 34 = .ok (.iload_n 3, 1) := by decide +kernel
theorem dX3_takeCut_35 : decode cX3_takeCut 35 = .ok (.iaload, 1) := by decide +kernel
theorem dX3_takeCut_36 : decode cX3_takeCut 36 = .ok (.aload_n 1, 1) := by decide +kernel
theorem dX3_takeCut_37 : decode cX3_takeCut 37 = .ok (.iload_n 2, 1) := by decide +kernel
theorem dX3_takeCut_38 : decode cX3_takeCut 38 = .ok (.iload_n 3, 1) := by decide +kernel
theorem dX3_takeCut_39 : decode cX3_takeCut 39 = .ok (.invokevirtual 127, 3) := by decide +kernel
theorem dX3_takeCut_42 : decode cX3_takeCut 42 = .ok (.invokestatic 45, 3) := by decide +kernel
theorem dX3_takeCut_45 : decode cX3_takeCut 45 = .ok (.invokevirtual 113, 3) := by decide +kernel
theorem dX3_takeCut_48 : decode cX3_takeCut 48 = .ok (.istore 4, 2) := by decide +kernel
theorem dX3_takeCut_50 : decode cX3_takeCut 50 = .ok (.iload 4, 2) := by decide +kernel
theorem dX3_takeCut_52 : decode cX3_takeCut 52 = .ok (.ifCond .ge 5, 3) := by decide +kernel
theorem dX3_takeCut_55 : decode cX3_takeCut 55 = .ok (.iconst 0, 1) := by decide +kernel
theorem dX3_takeCut_56 : decode cX3_takeCut 56 = .ok (.ireturn, 1) := by decide +kernel
theorem dX3_takeCut_57 : decode cX3_takeCut 57 = .ok (.aload_n 1, 1) := by decide +kernel
theorem dX3_takeCut_58 : decode cX3_takeCut 58 = .ok (.iload_n 2, 1) := by decide +kernel
theorem dX3_takeCut_59 : decode cX3_takeCut 59 = .ok (.iload_n 3, 1) := by decide +kernel
theorem dX3_takeCut_60 : decode cX3_takeCut 60 = .ok (.iload 4, 2) := by decide +kernel
theorem dX3_takeCut_62 : decode cX3_takeCut 62 = .ok (.invokevirtual 130, 3) := by decide +kernel
theorem dX3_takeCut_65 : decode cX3_takeCut 65 = .ok (.iconst 1, 1) := by decide +kernel
theorem dX3_takeCut_66 : decode cX3_takeCut 66 = .ok (.ireturn, 1) := by decide +kernel
theorem dX3_takeStore_0 : decode cX3_takeStore 0 = .ok (.aload_n 0, 1) := by decide +kernel
theorem dX3_takeStore_1 : decode cX3_takeStore 1 = .ok (.invokevirtual 22, 3) := by decide +kernel
theorem dX3_takeStore_4 : decode cX3_takeStore 4 = .ok (.aload_n 0, 1) := by decide +kernel
theorem dX3_takeStore_5 : decode cX3_takeStore 5 = .ok (.bipush 11, 2) := by decide +kernel
theorem dX3_takeStore_7 : decode cX3_takeStore 7 = .ok (.invokevirtual 113, 3) := by decide +kernel
theorem dX3_takeStore_10 : decode cX3_takeStore 10 = .ok (.istore_n 2, 1) := by decide +kernel
theorem dX3_takeStore_11 : decode cX3_takeStore 11 = .ok (.iload_n 2, 1) := by decide +kernel
theorem dX3_takeStore_12 : decode cX3_takeStore 12 = .ok (.ifCond .ge 5, 3) := by decide +kernel
theorem dX3_takeStore_15 : decode cX3_takeStore 15 = .ok (.iconst 0, 1) := by decide +kernel
theorem dX3_takeStore_16 : decode cX3_takeStore 16 = .ok (.ireturn, 1) := by decide +kernel
theorem dX3_takeStore_17 : decode cX3_takeStore 17 = .ok (.aload_n 0, 1) := by decide +kernel
theorem dX3_takeStore_18 : decode cX3_takeStore 18 = .ok (.sipush 9999, 3) := by decide +kernel
theorem dX3_takeStore_21 : decode cX3_takeStore 21 = .ok (.invokevirtual 113, 3) := by decide +kernel
theorem dX3_takeStore_24 : decode cX3_takeStore 24 = .ok (.istore_n 3, 1) := by decide +kernel
theorem dX3_takeStore_25 : decode cX3_takeStore 25 = .ok (.iload_n 3, 1) := by decide +kernel
theorem dX3_takeStore_26 : decode cX3_takeStore 26 = .ok (.ifCond .ge 5, 3) := by decide +kernel
theorem dX3_takeStore_29 : decode cX3_takeStore 29 = .ok (.iconst 0, 1) := by decide +kernel
theorem dX3_takeStore_30 : decode cX3_takeStore 30 = .ok (.ireturn, 1) := by decide +kernel
theorem dX3_takeStore_31 : decode cX3_takeStore 31 = .ok (.aload_n 1, 1) := by decide +kernel
theorem dX3_takeStore_32 : decode cX3_takeStore 32 = .ok (.getfield 125, 3) := by decide +kernel
theorem dX3_takeStore_35 : decode cX3_takeStore 35 = .ok (.iload_n 2, 1) := by decide +kernel
theorem dX3_takeStore_36 : decode cX3_takeStore 36 = .ok (.iload_n 3, 1) := by decide +kernel
theorem dX3_takeStore_37 : decode cX3_takeStore 37 = .ok (.iastore, 1) := by decide +kernel
theorem dX3_takeStore_38 : decode cX3_takeStore 38 = .ok (.iconst 1, 1) := by decide +kernel
theorem dX3_takeStore_39 : decode cX3_takeStore 39 = .ok (.ireturn, 1) := by decide +kernel
theorem dJ9_max_7cf53_0 : decode cJ9_max_7cf53 0 = .ok (.iload_n 0, 1) := by decide +kernel
theorem dJ9_max_7cf53_1 : decode cJ9_max_7cf53 1 = .ok (.iload_n 1, 1) := by decide +kernel
theorem dJ9_max_7cf53_2 : decode cJ9_max_7cf53 2 = .ok (.if_icmp .lt 7, 3) := by decide +kernel
theorem dJ9_max_7cf53_5 : decode cJ9_max_7cf53 5 = .ok (.iload_n 0, 1) := by decide +kernel
theorem dJ9_max_7cf53_6 : decode cJ9_max_7cf53 6 = .ok (.goto 4, 3) := by decide +kernel
theorem dJ9_max_7cf53_9 : decode cJ9_max_7cf53 9 = .ok (.iload_n 1, 1) := by decide +kernel
theorem dJ9_max_7cf53_10 : decode cJ9_max_7cf53 10 = .ok (.ireturn, 1) := by decide +kernel
theorem dJ9_min_7cf53_0 : decode cJ9_min_7cf53 0 = .ok (.iload_n 0, 1) := by decide +kernel
theorem dJ9_min_7cf53_1 : decode cJ9_min_7cf53 1 = .ok (.iload_n 1, 1) := by decide +kernel
theorem dJ9_min_7cf53_2 : decode cJ9_min_7cf53 2 = .ok (.if_icmp .gt 7, 3) := by decide +kernel
theorem dJ9_min_7cf53_5 : decode cJ9_min_7cf53 5 = .ok (.iload_n 0, 1) := by decide +kernel
theorem dJ9_min_7cf53_6 : decode cJ9_min_7cf53 6 = .ok (.goto 4, 3) := by decide +kernel
theorem dJ9_min_7cf53_9 : decode cJ9_min_7cf53 9 = .ok (.iload_n 1, 1) := by decide +kernel
theorem dJ9_min_7cf53_10 : decode cJ9_min_7cf53 10 = .ok (.ireturn, 1) := by decide +kernel
theorem dJ0_length_8abf5_0 : decode cJ0_length_8abf5 0 = .ok (.aload_n 0, 1) := by decide +kernel
theorem dJ0_length_8abf5_1 : decode cJ0_length_8abf5 1 = .ok (.getfield 9, 3) := by decide +kernel
theorem dJ0_length_8abf5_4 : decode cJ0_length_8abf5 4 = .ok (.arraylength, 1) := by decide +kernel
theorem dJ0_length_8abf5_5 : decode cJ0_length_8abf5 5 = .ok (.aload_n 0, 1) := by decide +kernel
theorem dJ0_length_8abf5_6 : decode cJ0_length_8abf5 6 = .ok (.invokevirtual 335, 3) := by decide +kernel
theorem dJ0_length_8abf5_9 : decode cJ0_length_8abf5 9 = .ok (.ishr, 1) := by decide +kernel
theorem dJ0_length_8abf5_10 : decode cJ0_length_8abf5 10 = .ok (.ireturn, 1) := by decide +kernel
theorem dJ0_charAt_5068e_0 : decode cJ0_charAt_5068e 0 = .ok (.aload_n 0, 1) := by decide +kernel
theorem dJ0_charAt_5068e_1 : decode cJ0_charAt_5068e 1 = .ok (.invokevirtual 492, 3) := by decide +kernel
theorem dJ0_charAt_5068e_4 : decode cJ0_charAt_5068e 4 = .ok (.ifCond .eq 12, 3) := by decide +kernel
theorem dJ0_charAt_5068e_7 : decode cJ0_charAt_5068e 7 = .ok (.aload_n 0, 1) := by decide +kernel
theorem dJ0_charAt_5068e_8 : decode cJ0_charAt_5068e 8 = .ok (.getfield 9, 3) := by decide +kernel
theorem dJ0_charAt_5068e_11 : decode cJ0_charAt_5068e 11 = .ok (.iload_n 1, 1) := by decide +kernel
theorem dJ0_charAt_5068e_12 : decode cJ0_charAt_5068e 12 = .ok (.invokestatic 495, 3) := by decide +kernel
theorem dJ0_charAt_5068e_15 : decode cJ0_charAt_5068e 15 = .ok (.ireturn, 1) := by decide +kernel
theorem dJ0_charAt_5068e_16 : decode cJ0_charAt_5068e 16 = .ok (.aload_n 0, 1) := by decide +kernel
theorem dJ0_charAt_5068e_17 : decode cJ0_charAt_5068e 17 = .ok (.getfield 9, 3) := by decide +kernel
theorem dJ0_charAt_5068e_20 : decode cJ0_charAt_5068e 20 = .ok (.iload_n 1, 1) := by decide +kernel
theorem dJ0_charAt_5068e_21 : decode cJ0_charAt_5068e 21 = .ok (.invokestatic 498, 3) := by decide +kernel
theorem dJ0_charAt_5068e_24 : decode cJ0_charAt_5068e 24 = .ok (.ireturn, 1) := by decide +kernel
theorem dJ0_coder_7d493_0 : decode cJ0_coder_7d493 0 = .ok (.getstatic 38, 3) := by decide +kernel
theorem dJ0_coder_7d493_3 : decode cJ0_coder_7d493 3 = .ok (.ifCond .eq 10, 3) := by decide +kernel
theorem dJ0_coder_7d493_6 : decode cJ0_coder_7d493 6 = .ok (.aload_n 0, 1) := by decide +kernel
theorem dJ0_coder_7d493_7 : decode cJ0_coder_7d493 7 = .ok (.getfield 15, 3) := by decide +kernel
theorem dJ0_coder_7d493_10 : decode cJ0_coder_7d493 10 = .ok (.goto 4, 3) := by decide +kernel
theorem dJ0_coder_7d493_13 : decode cJ0_coder_7d493 13 = .ok (.iconst 1, 1) := by decide +kernel
theorem dJ0_coder_7d493_14 : decode cJ0_coder_7d493 14 = .ok (.ireturn, 1) := by decide +kernel
theorem dJ0_isLatin1_aae02_0 : decode cJ0_isLatin1_aae02 0 = .ok (.getstatic 38, 3) := by decide +kernel
theorem dJ0_isLatin1_aae02_3 : decode cJ0_isLatin1_aae02 3 = .ok (.ifCond .eq 14, 3) := by decide +kernel
theorem dJ0_isLatin1_aae02_6 : decode cJ0_isLatin1_aae02 6 = .ok (.aload_n 0, 1) := by decide +kernel
theorem dJ0_isLatin1_aae02_7 : decode cJ0_isLatin1_aae02 7 = .ok (.getfield 15, 3) := by decide +kernel
theorem dJ0_isLatin1_aae02_10 : decode cJ0_isLatin1_aae02 10 = .ok (.ifCond .ne 7, 3) := by decide +kernel
theorem dJ0_isLatin1_aae02_13 : decode cJ0_isLatin1_aae02 13 = .ok (.iconst 1, 1) := by decide +kernel
theorem dJ0_isLatin1_aae02_14 : decode cJ0_isLatin1_aae02 14 = .ok (.goto 4, 3) := by decide +kernel
theorem dJ0_isLatin1_aae02_17 : decode cJ0_isLatin1_aae02 17 = .ok (.iconst 0, 1) := by decide +kernel
theorem dJ0_isLatin1_aae02_18 : decode cJ0_isLatin1_aae02 18 = .ok (.ireturn, 1) := by decide +kernel
theorem dJ0_checkIndex_df160_0 : decode cJ0_checkIndex_df160 0 = .ok (.iload_n 0, 1) := by decide +kernel
theorem dJ0_checkIndex_df160_1 : decode cJ0_checkIndex_df160 1 = .ok (.iload_n 1, 1) := by decide +kernel
theorem dJ0_checkIndex_df160_2 : decode cJ0_checkIndex_df160 2 = .ok (.getstatic 1053, 3) := by decide +kernel
theorem dJ0_checkIndex_df160_5 : decode cJ0_checkIndex_df160 5 = .ok (.invokestatic 1059, 3) := by decide +kernel
theorem dJ0_checkIndex_df160_8 : decode cJ0_checkIndex_df160 8 = .ok (.pop, 1) := by decide +kernel
theorem dJ0_checkIndex_df160_9 : decode cJ0_checkIndex_df160 9 = .ok (.return_, 1) := by decide +kernel
theorem dJ1_charAt_3b067_0 : decode cJ1_charAt_3b067 0 = .ok (.iload_n 1, 1) := by decide +kernel
theorem dJ1_charAt_3b067_1 : decode cJ1_charAt_3b067 1 = .ok (.aload_n 0, 1) := by decide +kernel
theorem dJ1_charAt_3b067_2 : decode cJ1_charAt_3b067 2 = .ok (.arraylength, 1) := by decide +kernel
theorem dJ1_charAt_3b067_3 : decode cJ1_charAt_3b067 3 = .ok (.invokestatic 9, 3) := by decide +kernel
theorem dJ1_charAt_3b067_6 : decode cJ1_charAt_3b067 6 = .ok (.aload_n 0, 1) := by decide +kernel
theorem dJ1_charAt_3b067_7 : decode cJ1_charAt_3b067 7 = .ok (.iload_n 1, 1) := by decide +kernel
theorem dJ1_charAt_3b067_8 : decode cJ1_charAt_3b067 8 = .ok (.baload, 1) := by decide +kernel
theorem dJ1_charAt_3b067_9 : decode cJ1_charAt_3b067 9 = .ok (.sipush 255, 3) := by decide +kernel
theorem dJ1_charAt_3b067_12 : decode cJ1_charAt_3b067 12 = .ok (.iand, 1) := by decide +kernel
theorem dJ1_charAt_3b067_13 : decode cJ1_charAt_3b067 13 = .ok (.i2c, 1) := by decide +kernel
theorem dJ1_charAt_3b067_14 : decode cJ1_charAt_3b067 14 = .ok (.ireturn, 1) := by decide +kernel
theorem dJ2_getChar_3b067_0 : decode cJ2_getChar_3b067 0 = .ok (.getstatic 44, 3) := by decide +kernel
theorem dJ2_getChar_3b067_3 : decode cJ2_getChar_3b067 3 = .ok (.ifCond .ne 25, 3) := by decide +kernel
theorem dJ2_getChar_3b067_6 : decode cJ2_getChar_3b067 6 = .ok (.iload_n 1, 1) := by decide +kernel
theorem dJ2_getChar_3b067_7 : decode cJ2_getChar_3b067 7 = .ok (.ifCond .lt 11, 3) := by decide +kernel
theorem dJ2_getChar_3b067_10 : decode cJ2_getChar_3b067 10 = .ok (.iload_n 1, 1) := by decide +kernel
theorem dJ2_getChar_3b067_11 : decode cJ2_getChar_3b067 11 = .ok (.aload_n 0, 1) := by decide +kernel
theorem dJ2_getChar_3b067_12 : decode cJ2_getChar_3b067 12 = .ok (.invokestatic 48, 3) := by decide +kernel
theorem dJ2_getChar_3b067_15 : decode cJ2_getChar_3b067 15 = .ok (.if_icmp .lt 13, 3) := by decide +kernel
theorem dJ2_getChar_3b067_18 : decode cJ2_getChar_3b067 18 = .ok (.new 52, 3) := by decide +kernel
theorem dJ2_getChar_3b067_21 : decode cJ2_getChar_3b067 21 = .ok (.dup, 1) := by decide +kernel
theorem dJ2_getChar_3b067_22 : decode cJ2_getChar_3b067 22 = .ok (.ldc 54, 2) := by decide +kernel
theorem dJ2_getChar_3b067_24 : decode cJ2_getChar_3b067 24 = .ok (.invokespecial 56, 3) := by decide +kernel
theorem dJ2_getChar_3b067_27 : decode cJ2_getChar_3b067 27 = .ok (.athrow, 1) := by decide +kernel
theorem dJ2_getChar_3b067_28 : decode cJ2_getChar_3b067 28 = .ok (.iload_n 1, 1) := by decide +kernel
theorem dJ2_getChar_3b067_29 : decode cJ2_getChar_3b067 29 = .ok (.iconst 1, 1) := by decide +kernel
theorem dJ2_getChar_3b067_30 : decode cJ2_getChar_3b067 30 = .ok (.ishl, 1) := by decide +kernel
theorem dJ2_getChar_3b067_31 : decode cJ2_getChar_3b067 31 = .ok (.istore_n 1, 1) := by decide +kernel
theorem dJ2_getChar_3b067_32 : decode cJ2_getChar_3b067 32 = .ok (.aload_n 0, 1) := by decide +kernel
theorem dJ2_getChar_3b067_33 : decode cJ2_getChar_3b067 33 = .ok (.iload_n 1, 1) := by decide +kernel
theorem dJ2_getChar_3b067_34 : decode cJ2_getChar_3b067 34 = .ok (.iinc 1 1, 3) := by decide +kernel
theorem dJ2_getChar_3b067_37 : decode cJ2_getChar_3b067 37 = .ok (.baload, 1) := by decide +kernel
theorem dJ2_getChar_3b067_38 : decode cJ2_getChar_3b067 38 = .ok (.sipush 255, 3) := by decide +kernel
theorem dJ2_getChar_3b067_41 : decode cJ2_getChar_3b067 41 = .ok (.iand, 1) := by decide +kernel
theorem dJ2_getChar_3b067_42 : decode cJ2_getChar_3b067 42 = .ok (.getstatic 59, 3) := by decide +kernel
theorem dJ2_getChar_3b067_45 : decode cJ2_getChar_3b067 45 = .ok (.ishl, 1) := by decide +kernel
theorem dJ2_getChar_3b067_46 : decode cJ2_getChar_3b067 46 = .ok (.aload_n 0, 1) := by decide +kernel
theorem dJ2_getChar_3b067_47 : decode cJ2_getChar_3b067 47 = .ok (.iload_n 1, 1) := by decide +kernel
theorem dJ2_getChar_3b067_48 : decode cJ2_getChar_3b067 48 = .ok (.baload, 1) := by decide +kernel
theorem dJ2_getChar_3b067_49 : decode cJ2_getChar_3b067 49 = .ok (.sipush 255, 3) := by decide +kernel
theorem dJ2_getChar_3b067_52 : decode cJ2_getChar_3b067 52 = .ok (.iand, 1) := by decide +kernel
theorem dJ2_getChar_3b067_53 : decode cJ2_getChar_3b067 53 = .ok (.getstatic 63, 3) := by decide +kernel
theorem dJ2_getChar_3b067_56 : decode cJ2_getChar_3b067 56 = .ok (.ishl, 1) := by decide +kernel
theorem dJ2_getChar_3b067_57 : decode cJ2_getChar_3b067 57 = .ok (.ior, 1) := by decide +kernel
theorem dJ2_getChar_3b067_58 : decode cJ2_getChar_3b067 58 = .ok (.i2c, 1) := by decide +kernel
theorem dJ2_getChar_3b067_59 : decode cJ2_getChar_3b067 59 = .ok (.ireturn, 1) := by decide +kernel
theorem dJ2_length_9d52b_0 : decode cJ2_length_9d52b 0 = .ok (.aload_n 0, 1) := by decide +kernel
theorem dJ2_length_9d52b_1 : decode cJ2_length_9d52b 1 = .ok (.arraylength, 1) := by decide +kernel
theorem dJ2_length_9d52b_2 : decode cJ2_length_9d52b 2 = .ok (.iconst 1, 1) := by decide +kernel
theorem dJ2_length_9d52b_3 : decode cJ2_length_9d52b 3 = .ok (.ishr, 1) := by decide +kernel
theorem dJ2_length_9d52b_4 : decode cJ2_length_9d52b 4 = .ok (.ireturn, 1) := by decide +kernel
theorem dJ2_charAt_3b067_0 : decode cJ2_charAt_3b067 0 = .ok (.iload_n 1, 1) := by decide +kernel
theorem dJ2_charAt_3b067_1 : decode cJ2_charAt_3b067 1 = .ok (.aload_n 0, 1) := by decide +kernel
theorem dJ2_charAt_3b067_2 : decode cJ2_charAt_3b067 2 = .ok (.invokestatic 67, 3) := by decide +kernel
theorem dJ2_charAt_3b067_5 : decode cJ2_charAt_3b067 5 = .ok (.aload_n 0, 1) := by decide +kernel
theorem dJ2_charAt_3b067_6 : decode cJ2_charAt_3b067 6 = .ok (.iload_n 1, 1) := by decide +kernel
theorem dJ2_charAt_3b067_7 : decode cJ2_charAt_3b067 7 = .ok (.invokestatic 71, 3) := by decide +kernel
theorem dJ2_charAt_3b067_10 : decode cJ2_charAt_3b067 10 = .ok (.ireturn, 1) := by decide +kernel
theorem dJ2_checkIndex_2214a_0 : decode cJ2_checkIndex_2214a 0 = .ok (.iload_n 0, 1) := by decide +kernel
theorem dJ2_checkIndex_2214a_1 : decode cJ2_checkIndex_2214a 1 = .ok (.aload_n 1, 1) := by decide +kernel
theorem dJ2_checkIndex_2214a_2 : decode cJ2_checkIndex_2214a 2 = .ok (.invokestatic 48, 3) := by decide +kernel
theorem dJ2_checkIndex_2214a_5 : decode cJ2_checkIndex_2214a 5 = .ok (.invokestatic 414, 3) := by decide +kernel
theorem dJ2_checkIndex_2214a_8 : decode cJ2_checkIndex_2214a 8 = .ok (.return_, 1) := by decide +kernel
theorem dJ7_fill_d0a16_0 : decode cJ7_fill_d0a16 0 = .ok (.iconst 0, 1) := by decide +kernel
theorem dJ7_fill_d0a16_1 : decode cJ7_fill_d0a16 1 = .ok (.istore_n 3, 1) := by decide +kernel
theorem dJ7_fill_d0a16_2 : decode cJ7_fill_d0a16 2 = .ok (.aload_n 0, 1) := by decide +kernel
theorem dJ7_fill_d0a16_3 : decode cJ7_fill_d0a16 3 = .ok (.arraylength, 1) := by decide +kernel
theorem dJ7_fill_d0a16_4 : decode cJ7_fill_d0a16 4 = .ok (.istore 4, 2) := by decide +kernel
theorem dJ7_fill_d0a16_6 : decode cJ7_fill_d0a16 6 = .ok (.iload_n 3, 1) := by decide +kernel
theorem dJ7_fill_d0a16_7 : decode cJ7_fill_d0a16 7 = .ok (.iload 4, 2) := by decide +kernel
theorem dJ7_fill_d0a16_9 : decode cJ7_fill_d0a16 9 = .ok (.if_icmp .ge 13, 3) := by decide +kernel
theorem dJ7_fill_d0a16_12 : decode cJ7_fill_d0a16 12 = .ok (.aload_n 0, 1) := by decide +kernel
theorem dJ7_fill_d0a16_13 : decode cJ7_fill_d0a16 13 = .ok (.iload_n 3, 1) := by decide +kernel
theorem dJ7_fill_d0a16_14 : decode cJ7_fill_d0a16 14 = .ok (.lload_n 1, 1) := by decide +kernel
theorem dJ7_fill_d0a16_15 : decode cJ7_fill_d0a16 15 = .ok (.lastore, 1) := by decide +kernel
theorem dJ7_fill_d0a16_16 : decode cJ7_fill_d0a16 16 = .ok (.iinc 3 1, 3) := by decide +kernel
theorem dJ7_fill_d0a16_19 : decode cJ7_fill_d0a16 19 = .ok (.goto (-13), 3) := by decide +kernel
theorem dJ7_fill_d0a16_22 : decode cJ7_fill_d0a16 22 = .ok (.return_, 1) := by decide +kernel
theorem dJ7_fill_53178_0 : decode cJ7_fill_53178 0 = .ok (.iconst 0, 1) := by decide +kernel
theorem dJ7_fill_53178_1 : decode cJ7_fill_53178 1 = .ok (.istore_n 2, 1) := by decide +kernel
theorem dJ7_fill_53178_2 : decode cJ7_fill_53178 2 = .ok (.aload_n 0, 1) := by decide +kernel
theorem dJ7_fill_53178_3 : decode cJ7_fill_53178 3 = .ok (.arraylength, 1) := by decide +kernel
theorem dJ7_fill_53178_4 : decode cJ7_fill_53178 4 = .ok (.istore_n 3, 1) := by decide +kernel
theorem dJ7_fill_53178_5 : decode cJ7_fill_53178 5 = .ok (.iload_n 2, 1) := by decide +kernel
theorem dJ7_fill_53178_6 : decode cJ7_fill_53178 6 = .ok (.iload_n 3, 1) := by decide +kernel
theorem dJ7_fill_53178_7 : decode cJ7_fill_53178 7 = .ok (.if_icmp .ge 13, 3) := by decide +kernel
theorem dJ7_fill_53178_10 : decode cJ7_fill_53178 10 = .ok (.aload_n 0, 1) := by decide +kernel
theorem dJ7_fill_53178_11 : decode cJ7_fill_53178 11 = .ok (.iload_n 2, 1) := by decide +kernel
theorem dJ7_fill_53178_12 : decode cJ7_fill_53178 12 = .ok (.iload_n 1, 1) := by decide +kernel
theorem dJ7_fill_53178_13 : decode cJ7_fill_53178 13 = .ok (.iastore, 1) := by decide +kernel
theorem dJ7_fill_53178_14 : decode cJ7_fill_53178 14 = .ok (.iinc 2 1, 3) := by decide +kernel
theorem dJ7_fill_53178_17 : decode cJ7_fill_53178 17 = .ok (.goto (-12), 3) := by decide +kernel
theorem dJ7_fill_53178_20 : decode cJ7_fill_53178 20 = .ok (.return_, 1) := by decide +kernel
theorem dJ3_checkIndex_8e157_0 : decode cJ3_checkIndex_8e157 0 = .ok (.iload_n 0, 1) := by decide +kernel
theorem dJ3_checkIndex_8e157_1 : decode cJ3_checkIndex_8e157 1 = .ok (.ifCond .lt 8, 3) := by decide +kernel
theorem dJ3_checkIndex_8e157_4 : decode cJ3_checkIndex_8e157 4 = .ok (.iload_n 0, 1) := by decide +kernel
theorem dJ3_checkIndex_8e157_5 : decode cJ3_checkIndex_8e157 5 = .ok (.iload_n 1, 1) := by decide +kernel
theorem dJ3_checkIndex_8e157_6 : decode cJ3_checkIndex_8e157 6 = .ok (.if_icmp .lt 10, 3) := by decide +kernel
theorem dJ3_checkIndex_8e157_9 : decode cJ3_checkIndex_8e157 9 = .ok (.aload_n 2, 1) := by decide +kernel
theorem dJ3_checkIndex_8e157_10 : decode cJ3_checkIndex_8e157 10 = .ok (.iload_n 0, 1) := by decide +kernel
theorem dJ3_checkIndex_8e157_11 : decode cJ3_checkIndex_8e157 11 = .ok (.iload_n 1, 1) := by decide +kernel
theorem dJ3_checkIndex_8e157_12 : decode cJ3_checkIndex_8e157 12 = .ok (.invokestatic 95, 3) := by decide +kernel
theorem dJ3_checkIndex_8e157_15 : decode cJ3_checkIndex_8e157 15 = .ok (.athrow, 1) := by decide +kernel
theorem dJ3_checkIndex_8e157_16 : decode cJ3_checkIndex_8e157 16 = .ok (.iload_n 0, 1) := by decide +kernel
theorem dJ3_checkIndex_8e157_17 : decode cJ3_checkIndex_8e157 17 = .ok (.ireturn, 1) := by decide +kernel
end
section
theorem dX4_init_0 : decode cX4_init 0 = .ok (.aload_n 0, 1) := by decide +kernel
theorem dX4_init_1 : decode cX4_init 1 = .ok (.invokespecial 1, 3) := by decide +kernel
theorem dX4_init_4 : decode cX4_init 4 = .ok (.aload_n 0, 1) := by decide +kernel
theorem dX4_init_5 : decode cX4_init 5 = .ok (.new 7, 3) := by decide +kernel
theorem dX4_init_8 : decode cX4_init 8 = .ok (.dup, 1) := by decide +kernel
theorem dX4_init_9 : decode cX4_init 9 = .ok (.invokespecial 9, 3) := by decide +kernel
theorem dX4_init_12 : decode cX4_init 12 = .ok (.putfield 10, 3) := by decide +kernel
theorem dX4_init_15 : decode cX4_init 15 = .ok (.aload_n 0, 1) := by decide +kernel
theorem dX4_init_16 : decode cX4_init 16 = .ok (.new 7, 3) := by decide +kernel
theorem dX4_init_19 : decode cX4_init 19 = .ok (.dup, 1) := by decide +kernel
theorem dX4_init_20 : decode cX4_init 20 = .ok (.invokespecial 9, 3) := by decide +kernel
theorem dX4_init_23 : decode cX4_init 23 = .ok (.putfield 16, 3) := by decide +kernel
theorem dX4_init_26 : decode cX4_init 26 = .ok (.aload_n 0, 1) := by decide +kernel
theorem dX4_init_27 : decode cX4_init 27 = .ok (.new 7, 3) := by decide +kernel
theorem dX4_init_30 : decode cX4_init 30 = .ok (.dup, 1) := by decide +kernel
theorem dX4_init_31 : decode cX4_init 31 = .ok (.invokespecial 9, 3) := by decide +kernel
theorem dX4_init_34 : decode cX4_init 34 = .ok (.putfield 19, 3) := by decide +kernel
theorem dX4_init_37 : decode cX4_init 37 = .ok (.aload_n 0, 1) := by decide +kernel
theorem dX4_init_38 : decode cX4_init 38 = .ok (.new 22, 3) := by decide +kernel
theorem dX4_init_41 : decode cX4_init 41 = .ok (.dup, 1) := by decide +kernel
theorem dX4_init_42 : decode cX4_init 42 = .ok (.invokespecial 24, 3) := by decide +kernel
theorem dX4_init_45 : decode cX4_init 45 = .ok (.putfield 25, 3) := by decide +kernel
theorem dX4_init_48 : decode cX4_init 48 = .ok (.aload_n 0, 1) := by decide +kernel
theorem dX4_init_49 : decode cX4_init 49 = .ok (.new 29, 3) := by decide +kernel
theorem dX4_init_52 : decode cX4_init 52 = .ok (.dup, 1) := by decide +kernel
theorem dX4_init_53 : decode cX4_init 53 = .ok (.invokespecial 31, 3) := by decide +kernel
theorem dX4_init_56 : decode cX4_init 56 = .ok (.putfield 32, 3) := by decide +kernel
theorem dX4_init_59 : decode cX4_init 59 = .ok (.aload_n 0, 1) := by decide +kernel
theorem dX4_init_60 : decode cX4_init 60 = .ok (.iconst 4, 1) := by decide +kernel
theorem dX4_init_61 : decode cX4_init 61 = .ok (.anewarray 36, 3) := by decide +kernel
theorem dX4_init_64 : decode cX4_init 64 = .ok (.putfield 38, 3) := by decide +kernel
theorem dX4_init_67 : decode cX4_init 67 = .ok (.aload_n 0, 1) := by decide +kernel
theorem dX4_init_68 : decode cX4_init 68 = .ok (.bipush 7, 2) := by decide +kernel
theorem dX4_init_70 : decode cX4_init 70 = .ok (.newarray .int, 2) := by decide +kernel
theorem dX4_init_72 : decode cX4_init 72 = .ok (.putfield 42, 3) := by decide +kernel
theorem dX4_init_75 : decode cX4_init 75 = .ok (.iconst 0, 1) := by decide +kernel
theorem dX4_init_76 : decode cX4_init 76 = .ok (.istore_n 1, 1) := by decide +kernel
theorem dX4_init_77 : decode cX4_init 77 = .ok (.iload_n 1, 1) := by decide +kernel
theorem dX4_init_78 : decode cX4_init 78 = .ok (.iconst 4, 1) := by decide +kernel
theorem dX4_init_79 : decode cX4_init 79 = .ok (.if_icmp .ge 22, 3) := by decide +kernel
theorem dX4_init_82 : decode cX4_init 82 = .ok (.aload_n 0, 1) := by decide +kernel
theorem dX4_init_83 : decode cX4_init 83 = .ok (.getfield 38, 3) := by decide +kernel
theorem dX4_init_86 : decode cX4_init 86 = .ok (.iload_n 1, 1) := by decide +kernel
theorem dX4_init_87 : decode cX4_init 87 = .ok (.new 36, 3) := by decide +kernel
theorem dX4_init_90 : decode cX4_init 90 = .ok (.dup, 1) := by decide +kernel
theorem dX4_init_91 : decode cX4_init 91 = .ok (.invokespecial 46, 3) := by decide +kernel
theorem dX4_init_94 : decode cX4_init 94 = .ok (.aastore, 1) := by decide +kernel
theorem dX4_init_95 : decode cX4_init 95 = .ok (.iinc 1 1, 3) := by decide +kernel
theorem dX4_init_98 : decode cX4_init 98 = .ok (.goto (-21), 3) := by decide +kernel
theorem dX4_init_101 : decode cX4_init 101 = .ok (.return_, 1) := by decide +kernel
theorem dX4_weather_0 : decode cX4_weather 0 = .ok (.iload_n 1, 1) := by decide +kernel
theorem dX4_weather_1 : decode cX4_weather 1 = .ok (.invokestatic 47, 3) := by decide +kernel
theorem dX4_weather_4 : decode cX4_weather 4 = .ok (.ifCond .eq 10, 3) := by decide +kernel
theorem dX4_weather_7 : decode cX4_weather 7 = .ok (.iload_n 2, 1) := by decide +kernel
theorem dX4_weather_8 : decode cX4_weather 8 = .ok (.invokestatic 51, 3) := by decide +kernel
theorem dX4_weather_11 : decode cX4_weather 11 = .ok (.ifCond .ne 9, 3) := by decide +kernel
theorem dX4_weather_14 : decode cX4_weather 14 = .ok (.aload_n 0, 1) := by decide +kernel
theorem dX4_weather_15 : decode cX4_weather 15 = .ok (.iconst 0, 1) := by decide +kernel
theorem dX4_weather_16 : decode cX4_weather 16 = .ok (.invokevirtual 54, 3) := by decide +kernel
theorem dX4_weather_19 : decode cX4_weather 19 = .ok (.ireturn, 1) := by decide +kernel
theorem dX4_weather_20 : decode cX4_weather 20 = .ok (.aload_n 0, 1) := by decide +kernel
theorem dX4_weather_21 : decode cX4_weather 21 = .ok (.getfield 10, 3) := by decide +kernel
theorem dX4_weather_24 : decode cX4_weather 24 = .ok (.getfield 58, 3) := by decide +kernel
theorem dX4_weather_27 : decode cX4_weather 27 = .ok (.iload_n 1, 1) := by decide +kernel
theorem dX4_weather_28 : decode cX4_weather 28 = .ok (.iaload, 1) := by decide +kernel
theorem dX4_weather_29 : decode cX4_weather 29 = .ok (.istore_n 3, 1) := by decide +kernel
theorem dX4_weather_30 : decode cX4_weather 30 = .ok (.aload_n 0, 1) := by decide +kernel
theorem dX4_weather_31 : decode cX4_weather 31 = .ok (.getfield 10, 3) := by decide +kernel
theorem dX4_weather_34 : decode cX4_weather 34 = .ok (.getfield 58, 3) := by decide +kernel
theorem dX4_weather_37 : decode cX4_weather 37 = .ok (.iload_n 1, 1) := by decide +kernel
theorem dX4_weather_38 : decode cX4_weather 38 = .ok (.iload_n 2, 1) := by decide +kernel
theorem dX4_weather_39 : decode cX4_weather 39 = .ok (.iastore, 1) := by decide +kernel
theorem dX4_weather_40 : decode cX4_weather 40 = .ok (.iload_n 3, 1) := by decide +kernel
theorem dX4_weather_41 : decode cX4_weather 41 = .ok (.ireturn, 1) := by decide +kernel
theorem dX4_monthOf_0 : decode cX4_monthOf 0 = .ok (.iload_n 1, 1) := by decide +kernel
theorem dX4_monthOf_1 : decode cX4_monthOf 1 = .ok (.invokestatic 47, 3) := by decide +kernel
theorem dX4_monthOf_4 : decode cX4_monthOf 4 = .ok (.ifCond .ne 9, 3) := by decide +kernel
theorem dX4_monthOf_7 : decode cX4_monthOf 7 = .ok (.aload_n 0, 1) := by decide +kernel
theorem dX4_monthOf_8 : decode cX4_monthOf 8 = .ok (.iconst 0, 1) := by decide +kernel
theorem dX4_monthOf_9 : decode cX4_monthOf 9 = .ok (.invokevirtual 54, 3) := by decide +kernel
theorem dX4_monthOf_12 : decode cX4_monthOf 12 = .ok (.ireturn, 1) := by decide +kernel
theorem dX4_monthOf_13 : decode cX4_monthOf 13 = .ok (.iload_n 2, 1) := by decide +kernel
theorem dX4_monthOf_14 : decode cX4_monthOf 14 = .ok (.tableswitch 59 0 2 #[26, 39, 49], 26) := by decide +kernel
theorem dX4_monthOf_40 : decode cX4_monthOf 40 = .ok (.bipush 100, 2) := by decide +kernel
theorem dX4_monthOf_42 : decode cX4_monthOf 42 = .ok (.aload_n 0, 1) := by decide +kernel
theorem dX4_monthOf_43 : decode cX4_monthOf 43 = .ok (.getfield 10, 3) := by decide +kernel
theorem dX4_monthOf_46 : decode cX4_monthOf 46 = .ok (.getfield 58, 3) := by decide +kernel
theorem dX4_monthOf_49 : decode cX4_monthOf 49 = .ok (.iload_n 1, 1) := by decide +kernel
theorem dX4_monthOf_50 : decode cX4_monthOf 50 = .ok (.iaload, 1) := by decide +kernel
theorem dX4_monthOf_51 : decode cX4_monthOf 51 = .ok (.iadd, 1) := by decide +kernel
theorem dX4_monthOf_52 : decode cX4_monthOf 52 = .ok (.ireturn, 1) := by decide +kernel
theorem dX4_monthOf_53 : decode cX4_monthOf 53 = .ok (.aload_n 0, 1) := by decide +kernel
theorem dX4_monthOf_54 : decode cX4_monthOf 54 = .ok (.getfield 10, 3) := by decide +kernel
theorem dX4_monthOf_57 : decode cX4_monthOf 57 = .ok (.getfield 61, 3) := by decide +kernel
theorem dX4_monthOf_60 : decode cX4_monthOf 60 = .ok (.iload_n 1, 1) := by decide +kernel
theorem dX4_monthOf_61 : decode cX4_monthOf 61 = .ok (.iaload, 1) := by decide +kernel
theorem dX4_monthOf_62 : decode cX4_monthOf 62 = .ok (.ireturn, 1) := by decide +kernel
theorem dX4_monthOf_63 : decode cX4_monthOf 63 = .ok (.aload_n 0, 1) := by decide +kernel
theorem dX4_monthOf_64 : decode cX4_monthOf 64 = .ok (.getfield 10, 3) := by decide +kernel
theorem dX4_monthOf_67 : decode cX4_monthOf 67 = .ok (.getfield 64, 3) := by decide +kernel
theorem dX4_monthOf_70 : decode cX4_monthOf 70 = .ok (.iload_n 1, 1) := by decide +kernel
theorem dX4_monthOf_71 : decode cX4_monthOf 71 = .ok (.iaload, 1) := by decide +kernel
theorem dX4_monthOf_72 : decode cX4_monthOf 72 = .ok (.ireturn, 1) := by decide +kernel
theorem dX4_monthOf_73 : decode cX4_monthOf 73 = .ok (.aload_n 0, 1) := by decide +kernel
theorem dX4_monthOf_74 : decode cX4_monthOf 74 = .ok (.iconst 0, 1) := by decide +kernel
theorem dX4_monthOf_75 : decode cX4_monthOf 75 = .ok (.invokevirtual 54, 3) := by decide +kernel
theorem dX4_monthOf_78 : decode cX4_monthOf 78 = .ok (.ireturn, 1) := by decide +kernel
theorem dX4_now_0 : decode cX4_now 0 = .ok (.iload_n 1, 1) := by decide +kernel
theorem dX4_now_1 : decode cX4_now 1 = .ok (.tableswitch 104 0 5 #[39, 47, 55, 74, 85, 96], 39) := by decide +kernel
theorem dX4_now_40 : decode cX4_now 40 = .ok (.aload_n 0, 1) := by decide +kernel
theorem dX4_now_41 : decode cX4_now 41 = .ok (.getfield 10, 3) := by decide +kernel
theorem dX4_now_44 : decode cX4_now 44 = .ok (.getfield 67, 3) := by decide +kernel
theorem dX4_now_47 : decode cX4_now 47 = .ok (.ireturn, 1) := by decide +kernel
theorem dX4_now_48 : decode cX4_now 48 = .ok (.aload_n 0, 1) := by decide +kernel
theorem dX4_now_49 : decode cX4_now 49 = .ok (.getfield 10, 3) := by decide +kernel
theorem dX4_now_52 : decode cX4_now 52 = .ok (.invokevirtual 71, 3) := by decide +kernel
theorem dX4_now_55 : decode cX4_now 55 = .ok (.ireturn, 1) := by decide +kernel
theorem dX4_now_56 : decode cX4_now 56 = .ok (.bipush 100, 2) := by decide +kernel
theorem dX4_now_58 : decode cX4_now 58 = .ok (.aload_n 0, 1) := by decide +kernel
theorem dX4_now_59 : decode cX4_now 59 = .ok (.getfield 10, 3) := by decide +kernel
theorem dX4_now_62 : decode cX4_now 62 = .ok (.getfield 58, 3) := by decide +kernel
theorem dX4_now_65 : decode cX4_now 65 = .ok (.aload_n 0, 1) := by decide +kernel
theorem dX4_now_66 : decode cX4_now 66 = .ok (.getfield 10, 3) := by decide +kernel
theorem dX4_now_69 : decode cX4_now 69 = .ok (.invokevirtual 71, 3) := by decide +kernel
theorem dX4_now_72 : decode cX4_now 72 = .ok (.iaload, 1) := by decide +kernel
theorem dX4_now_73 : decode cX4_now 73 = .ok (.iadd, 1) := by decide +kernel
theorem dX4_now_74 : decode cX4_now 74 = .ok (.ireturn, 1) := by decide +kernel
theorem dX4_now_75 : decode cX4_now 75 = .ok (.aload_n 0, 1) := by decide +kernel
theorem dX4_now_76 : decode cX4_now 76 = .ok (.getfield 10, 3) := by decide +kernel
theorem dX4_now_79 : decode cX4_now 79 = .ok (.getfield 61, 3) := by decide +kernel
theorem dX4_now_82 : decode cX4_now 82 = .ok (.invokestatic 75, 3) := by decide +kernel
theorem dX4_now_85 : decode cX4_now 85 = .ok (.ireturn, 1) := by decide +kernel
theorem dX4_now_86 : decode cX4_now 86 = .ok (.aload_n 0, 1) := by decide +kernel
theorem dX4_now_87 : decode cX4_now 87 = .ok (.getfield 10, 3) := by decide +kernel
theorem dX4_now_90 : decode cX4_now 90 = .ok (.getfield 64, 3) := by decide +kernel
theorem dX4_now_93 : decode cX4_now 93 = .ok (.invokestatic 75, 3) := by decide +kernel
theorem dX4_now_96 : decode cX4_now 96 = .ok (.ireturn, 1) := by decide +kernel
theorem dX4_now_97 : decode cX4_now 97 = .ok (.aload_n 0, 1) := by decide +kernel
theorem dX4_now_98 : decode cX4_now 98 = .ok (.getfield 10, 3) := by decide +kernel
theorem dX4_now_101 : decode cX4_now 101 = .ok (.invokevirtual 79, 3) := by decide +kernel
theorem dX4_now_104 : decode cX4_now 104 = .ok (.ireturn, 1) := by decide +kernel
theorem dX4_now_105 : decode cX4_now 105 = .ok (.aload_n 0, 1) := by decide +kernel
theorem dX4_now_106 : decode cX4_now 106 = .ok (.iconst 0, 1) := by decide +kernel
theorem dX4_now_107 : decode cX4_now 107 = .ok (.invokevirtual 54, 3) := by decide +kernel
theorem dX4_now_110 : decode cX4_now 110 = .ok (.ireturn, 1) := by decide +kernel
theorem dX4_ewe_0 : decode cX4_ewe 0 = .ok (.iload_n 1, 1) := by decide +kernel
theorem dX4_ewe_1 : decode cX4_ewe 1 = .ok (.invokestatic 82, 3) := by decide +kernel
theorem dX4_ewe_4 : decode cX4_ewe 4 = .ok (.ifCond .ne 9, 3) := by decide +kernel
theorem dX4_ewe_7 : decode cX4_ewe 7 = .ok (.aload_n 0, 1) := by decide +kernel
theorem dX4_ewe_8 : decode cX4_ewe 8 = .ok (.iconst 0, 1) := by decide +kernel
theorem dX4_ewe_9 : decode cX4_ewe 9 = .ok (.invokevirtual 54, 3) := by decide +kernel
theorem dX4_ewe_12 : decode cX4_ewe 12 = .ok (.ireturn, 1) := by decide +kernel
theorem dX4_ewe_13 : decode cX4_ewe 13 = .ok (.aload_n 0, 1) := by decide +kernel
theorem dX4_ewe_14 : decode cX4_ewe 14 = .ok (.getfield 10, 3) := by decide +kernel
theorem dX4_ewe_17 : decode cX4_ewe 17 = .ok (.invokevirtual 85, 3) := by decide +kernel
theorem dX4_ewe_20 : decode cX4_ewe 20 = .ok (.ifCond .eq 9, 3) := by decide +kernel
theorem dX4_ewe_23 : decode cX4_ewe 23 = .ok (.aload_n 0, 1) := by decide +kernel
theorem dX4_ewe_24 : decode cX4_ewe 24 = .ok (.iconst 1, 1) := by decide +kernel
theorem dX4_ewe_25 : decode cX4_ewe 25 = .ok (.invokevirtual 54, 3) := by decide +kernel
theorem dX4_ewe_28 : decode cX4_ewe 28 = .ok (.ireturn, 1) := by decide +kernel
theorem dX4_ewe_29 : decode cX4_ewe 29 = .ok (.aload_n 0, 1) := by decide +kernel
theorem dX4_ewe_30 : decode cX4_ewe 30 = .ok (.getfield 10, 3) := by decide +kernel
theorem dX4_ewe_33 : decode cX4_ewe 33 = .ok (.iload_n 1, 1) := by decide +kernel
theorem dX4_ewe_34 : decode cX4_ewe 34 = .ok (.iconst 0, 1) := by decide +kernel
theorem dX4_ewe_35 : decode cX4_ewe 35 = .ok (.invokevirtual 89, 3) := by decide +kernel
theorem dX4_ewe_38 : decode cX4_ewe 38 = .ok (.aload_n 0, 1) := by decide +kernel
theorem dX4_ewe_39 : decode cX4_ewe 39 = .ok (.getfield 10, 3) := by decide +kernel
theorem dX4_ewe_42 : decode cX4_ewe 42 = .ok (.getfield 93, 3) := by decide +kernel
theorem dX4_ewe_45 : decode cX4_ewe 45 = .ok (.iconst 1, 1) := by decide +kernel
theorem dX4_ewe_46 : decode cX4_ewe 46 = .ok (.isub, 1) := by decide +kernel
theorem dX4_ewe_47 : decode cX4_ewe 47 = .ok (.ireturn, 1) := by decide +kernel
theorem dX4_of_0 : decode cX4_of 0 = .ok (.aload_n 0, 1) := by decide +kernel
theorem dX4_of_1 : decode cX4_of 1 = .ok (.iload_n 1, 1) := by decide +kernel
theorem dX4_of_2 : decode cX4_of 2 = .ok (.invokevirtual 96, 3) := by decide +kernel
theorem dX4_of_5 : decode cX4_of 5 = .ok (.ifCond .ne 9, 3) := by decide +kernel
theorem dX4_of_8 : decode cX4_of 8 = .ok (.aload_n 0, 1) := by decide +kernel
theorem dX4_of_9 : decode cX4_of 9 = .ok (.iconst 0, 1) := by decide +kernel
theorem dX4_of_10 : decode cX4_of 10 = .ok (.invokevirtual 54, 3) := by decide +kernel
theorem dX4_of_13 : decode cX4_of 13 = .ok (.ireturn, 1) := by decide +kernel
theorem dX4_of_14 : decode cX4_of 14 = .ok (.aload_n 0, 1) := by decide +kernel
theorem dX4_of_15 : decode cX4_of 15 = .ok (.getfield 10, 3) := by decide +kernel
theorem dX4_of_18 : decode cX4_of 18 = .ok (.getfield 99, 3) := by decide +kernel
theorem dX4_of_21 : decode cX4_of 21 = .ok (.iload_n 1, 1) := by decide +kernel
theorem dX4_of_22 : decode cX4_of 22 = .ok (.aaload, 1) := by decide +kernel
theorem dX4_of_23 : decode cX4_of 23 = .ok (.astore_n 3, 1) := by decide +kernel
theorem dX4_of_24 : decode cX4_of 24 = .ok (.iload_n 2, 1) := by decide +kernel
theorem dX4_of_25 : decode cX4_of 25 = .ok (.tableswitch 54 0 3 #[31, 36, 41, 46], 31) := by decide +kernel
theorem dX4_of_56 : decode cX4_of 56 = .ok (.aload_n 3, 1) := by decide +kernel
theorem dX4_of_57 : decode cX4_of 57 = .ok (.getfield 103, 3) := by decide +kernel
theorem dX4_of_60 : decode cX4_of 60 = .ok (.ireturn, 1) := by decide +kernel
theorem dX4_of_61 : decode cX4_of 61 = .ok (.aload_n 3, 1) := by decide +kernel
theorem dX4_of_62 : decode cX4_of 62 = .ok (.getfield 106, 3) := by decide +kernel
theorem dX4_of_65 : decode cX4_of 65 = .ok (.ireturn, 1) := by decide +kernel
theorem dX4_of_66 : decode cX4_of 66 = .ok (.aload_n 3, 1) := by decide +kernel
theorem dX4_of_67 : decode cX4_of 67 = .ok (.getfield 109, 3) := by decide +kernel
theorem dX4_of_70 : decode cX4_of 70 = .ok (.ireturn, 1) := by decide +kernel
theorem dX4_of_71 : decode cX4_of 71 = .ok (.aload_n 3, 1) := by decide +kernel
theorem dX4_of_72 : decode cX4_of 72 = .ok (.getfield 103, 3) := by decide +kernel
theorem dX4_of_75 : decode cX4_of 75 = .ok (.invokestatic 112, 3) := by decide +kernel
theorem dX4_of_78 : decode cX4_of 78 = .ok (.ireturn, 1) := by decide +kernel
theorem dX4_of_79 : decode cX4_of 79 = .ok (.aload_n 0, 1) := by decide +kernel
theorem dX4_of_80 : decode cX4_of 80 = .ok (.iconst 0, 1) := by decide +kernel
theorem dX4_of_81 : decode cX4_of 81 = .ok (.invokevirtual 54, 3) := by decide +kernel
theorem dX4_of_84 : decode cX4_of 84 = .ok (.ireturn, 1) := by decide +kernel
theorem dX4_fleece_0 : decode cX4_fleece 0 = .ok (.aload_n 0, 1) := by decide +kernel
theorem dX4_fleece_1 : decode cX4_fleece 1 = .ok (.iload_n 1, 1) := by decide +kernel
theorem dX4_fleece_2 : decode cX4_fleece 2 = .ok (.invokevirtual 96, 3) := by decide +kernel
theorem dX4_fleece_5 : decode cX4_fleece 5 = .ok (.ifCond .eq 10, 3) := by decide +kernel
theorem dX4_fleece_8 : decode cX4_fleece 8 = .ok (.iload_n 2, 1) := by decide +kernel
theorem dX4_fleece_9 : decode cX4_fleece 9 = .ok (.invokestatic 47, 3) := by decide +kernel
theorem dX4_fleece_12 : decode cX4_fleece 12 = .ok (.ifCond .ne 9, 3) := by decide +kernel
theorem dX4_fleece_15 : decode cX4_fleece 15 = .ok (.aload_n 0, 1) := by decide +kernel
theorem dX4_fleece_16 : decode cX4_fleece 16 = .ok (.iconst 0, 1) := by decide +kernel
theorem dX4_fleece_17 : decode cX4_fleece 17 = .ok (.invokevirtual 54, 3) := by decide +kernel
theorem dX4_fleece_20 : decode cX4_fleece 20 = .ok (.ireturn, 1) := by decide +kernel
theorem dX4_fleece_21 : decode cX4_fleece 21 = .ok (.aload_n 0, 1) := by decide +kernel
theorem dX4_fleece_22 : decode cX4_fleece 22 = .ok (.getfield 10, 3) := by decide +kernel
theorem dX4_fleece_25 : decode cX4_fleece 25 = .ok (.getfield 99, 3) := by decide +kernel
theorem dX4_fleece_28 : decode cX4_fleece 28 = .ok (.iload_n 1, 1) := by decide +kernel
theorem dX4_fleece_29 : decode cX4_fleece 29 = .ok (.aaload, 1) := by decide +kernel
theorem dX4_fleece_30 : decode cX4_fleece 30 = .ok (.getfield 115, 3) := by decide +kernel
theorem dX4_fleece_33 : decode cX4_fleece 33 = .ok (.iload_n 2, 1) := by decide +kernel
theorem dX4_fleece_34 : decode cX4_fleece 34 = .ok (.iaload, 1) := by decide +kernel
theorem dX4_fleece_35 : decode cX4_fleece 35 = .ok (.ireturn, 1) := by decide +kernel
theorem dX4_can_0 : decode cX4_can 0 = .ok (.aload_n 0, 1) := by decide +kernel
theorem dX4_can_1 : decode cX4_can 1 = .ok (.iload_n 1, 1) := by decide +kernel
theorem dX4_can_2 : decode cX4_can 2 = .ok (.invokevirtual 96, 3) := by decide +kernel
theorem dX4_can_5 : decode cX4_can 5 = .ok (.ifCond .eq 10, 3) := by decide +kernel
theorem dX4_can_8 : decode cX4_can 8 = .ok (.iload_n 3, 1) := by decide +kernel
theorem dX4_can_9 : decode cX4_can 9 = .ok (.invokestatic 51, 3) := by decide +kernel
theorem dX4_can_12 : decode cX4_can 12 = .ok (.ifCond .ne 9, 3) := by decide +kernel
theorem dX4_can_15 : decode cX4_can 15 = .ok (.aload_n 0, 1) := by decide +kernel
theorem dX4_can_16 : decode cX4_can 16 = .ok (.iconst 0, 1) := by decide +kernel
theorem dX4_can_17 : decode cX4_can 17 = .ok (.invokevirtual 54, 3) := by decide +kernel
theorem dX4_can_20 : decode cX4_can 20 = .ok (.ireturn, 1) := by decide +kernel
theorem dX4_can_21 : decode cX4_can 21 = .ok (.aload_n 0, 1) := by decide +kernel
theorem dX4_can_22 : decode cX4_can 22 = .ok (.getfield 10, 3) := by decide +kernel
theorem dX4_can_25 : decode cX4_can 25 = .ok (.getfield 99, 3) := by decide +kernel
theorem dX4_can_28 : decode cX4_can 28 = .ok (.iload_n 1, 1) := by decide +kernel
theorem dX4_can_29 : decode cX4_can 29 = .ok (.aaload, 1) := by decide +kernel
theorem dX4_can_30 : decode cX4_can 30 = .ok (.astore 4, 2) := by decide +kernel
theorem dX4_can_32 : decode cX4_can 32 = .ok (.iload_n 2, 1) := by decide +kernel
theorem dX4_can_33 : decode cX4_can 33 = .ok (.tableswitch 61 0 2 #[27, 37, 51], 27) := by decide +kernel
theorem dX4_can_60 : decode cX4_can 60 = .ok (.aload 4, 2) := by decide +kernel
theorem dX4_can_62 : decode cX4_can 62 = .ok (.getfield 103, 3) := by decide +kernel
theorem dX4_can_65 : decode cX4_can 65 = .ok (.iload_n 3, 1) := by decide +kernel
theorem dX4_can_66 : decode cX4_can 66 = .ok (.invokestatic 118, 3) := by decide +kernel
theorem dX4_can_69 : decode cX4_can 69 = .ok (.ireturn, 1) := by decide +kernel
theorem dX4_can_70 : decode cX4_can 70 = .ok (.aload 4, 2) := by decide +kernel
theorem dX4_can_72 : decode cX4_can 72 = .ok (.getfield 103, 3) := by decide +kernel
theorem dX4_can_75 : decode cX4_can 75 = .ok (.aload 4, 2) := by decide +kernel
theorem dX4_can_77 : decode cX4_can 77 = .ok (.getfield 106, 3) := by decide +kernel
theorem dX4_can_80 : decode cX4_can 80 = .ok (.invokestatic 122, 3) := by decide +kernel
theorem dX4_can_83 : decode cX4_can 83 = .ok (.ireturn, 1) := by decide +kernel
theorem dX4_can_84 : decode cX4_can 84 = .ok (.aload 4, 2) := by decide +kernel
theorem dX4_can_86 : decode cX4_can 86 = .ok (.getfield 103, 3) := by decide +kernel
theorem dX4_can_89 : decode cX4_can 89 = .ok (.iload_n 3, 1) := by decide +kernel
theorem dX4_can_90 : decode cX4_can 90 = .ok (.invokestatic 125, 3) := by decide +kernel
theorem dX4_can_93 : decode cX4_can 93 = .ok (.ireturn, 1) := by decide +kernel
theorem dX4_can_94 : decode cX4_can 94 = .ok (.aload_n 0, 1) := by decide +kernel
theorem dX4_can_95 : decode cX4_can 95 = .ok (.iconst 0, 1) := by decide +kernel
theorem dX4_can_96 : decode cX4_can 96 = .ok (.invokevirtual 54, 3) := by decide +kernel
theorem dX4_can_99 : decode cX4_can 99 = .ok (.ireturn, 1) := by decide +kernel
theorem dX4_scare_0 : decode cX4_scare 0 = .ok (.aload_n 0, 1) := by decide +kernel
theorem dX4_scare_1 : decode cX4_scare 1 = .ok (.iload_n 1, 1) := by decide +kernel
theorem dX4_scare_2 : decode cX4_scare 2 = .ok (.invokevirtual 96, 3) := by decide +kernel
theorem dX4_scare_5 : decode cX4_scare 5 = .ok (.ifCond .eq 13, 3) := by decide +kernel
theorem dX4_scare_8 : decode cX4_scare 8 = .ok (.iload_n 2, 1) := by decide +kernel
theorem dX4_scare_9 : decode cX4_scare 9 = .ok (.iconst 0, 1) := by decide +kernel
theorem dX4_scare_10 : decode cX4_scare 10 = .ok (.bipush 99, 2) := by decide +kernel
theorem dX4_scare_12 : decode cX4_scare 12 = .ok (.invokestatic 128, 3) := by decide +kernel
theorem dX4_scare_15 : decode cX4_scare 15 = .ok (.ifCond .ne 9, 3) := by decide +kernel
theorem dX4_scare_18 : decode cX4_scare 18 = .ok (.aload_n 0, 1) := by decide +kernel
theorem dX4_scare_19 : decode cX4_scare 19 = .ok (.iconst 0, 1) := by decide +kernel
theorem dX4_scare_20 : decode cX4_scare 20 = .ok (.invokevirtual 54, 3) := by decide +kernel
theorem dX4_scare_23 : decode cX4_scare 23 = .ok (.ireturn, 1) := by decide +kernel
theorem dX4_scare_24 : decode cX4_scare 24 = .ok (.aload_n 0, 1) := by decide +kernel
theorem dX4_scare_25 : decode cX4_scare 25 = .ok (.getfield 10, 3) := by decide +kernel
theorem dX4_scare_28 : decode cX4_scare 28 = .ok (.getfield 99, 3) := by decide +kernel
theorem dX4_scare_31 : decode cX4_scare 31 = .ok (.iload_n 1, 1) := by decide +kernel
theorem dX4_scare_32 : decode cX4_scare 32 = .ok (.aaload, 1) := by decide +kernel
theorem dX4_scare_33 : decode cX4_scare 33 = .ok (.getfield 106, 3) := by decide +kernel
theorem dX4_scare_36 : decode cX4_scare 36 = .ok (.istore_n 3, 1) := by decide +kernel
theorem dX4_scare_37 : decode cX4_scare 37 = .ok (.aload_n 0, 1) := by decide +kernel
theorem dX4_scare_38 : decode cX4_scare 38 = .ok (.getfield 10, 3) := by decide +kernel
theorem dX4_scare_41 : decode cX4_scare 41 = .ok (.getfield 99, 3) := by decide +kernel
theorem dX4_scare_44 : decode cX4_scare 44 = .ok (.iload_n 1, 1) := by decide +kernel
theorem dX4_scare_45 : decode cX4_scare 45 = .ok (.aaload, 1) := by decide +kernel
theorem dX4_scare_46 : decode cX4_scare 46 = .ok (.iload_n 2, 1) := by decide +kernel
theorem dX4_scare_47 : decode cX4_scare 47 = .ok (.putfield 106, 3) := by decide +kernel
theorem dX4_scare_50 : decode cX4_scare 50 = .ok (.iload_n 3, 1) := by decide +kernel
theorem dX4_scare_51 : decode cX4_scare 51 = .ok (.ireturn, 1) := by decide +kernel
theorem dX4_turn_0 : decode cX4_turn 0 = .ok (.aload_n 0, 1) := by decide +kernel
theorem dX4_turn_1 : decode cX4_turn 1 = .ok (.iload_n 1, 1) := by decide +kernel
theorem dX4_turn_2 : decode cX4_turn 2 = .ok (.invokevirtual 96, 3) := by decide +kernel
theorem dX4_turn_5 : decode cX4_turn 5 = .ok (.ifCond .eq 10, 3) := by decide +kernel
theorem dX4_turn_8 : decode cX4_turn 8 = .ok (.iload_n 2, 1) := by decide +kernel
theorem dX4_turn_9 : decode cX4_turn 9 = .ok (.invokestatic 82, 3) := by decide +kernel
theorem dX4_turn_12 : decode cX4_turn 12 = .ok (.ifCond .ne 9, 3) := by decide +kernel
theorem dX4_turn_15 : decode cX4_turn 15 = .ok (.aload_n 0, 1) := by decide +kernel
theorem dX4_turn_16 : decode cX4_turn 16 = .ok (.iconst 0, 1) := by decide +kernel
theorem dX4_turn_17 : decode cX4_turn 17 = .ok (.invokevirtual 54, 3) := by decide +kernel
theorem dX4_turn_20 : decode cX4_turn 20 = .ok (.ireturn, 1) := by decide +kernel
theorem dX4_turn_21 : decode cX4_turn 21 = .ok (.aload_n 0, 1) := by decide +kernel
theorem dX4_turn_22 : decode cX4_turn 22 = .ok (.getfield 10, 3) := by decide +kernel
theorem dX4_turn_25 : decode cX4_turn 25 = .ok (.getfield 99, 3) := by decide +kernel
theorem dX4_turn_28 : decode cX4_turn 28 = .ok (.iload_n 1, 1) := by decide +kernel
theorem dX4_turn_29 : decode cX4_turn 29 = .ok (.aaload, 1) := by decide +kernel
theorem dX4_turn_30 : decode cX4_turn 30 = .ok (.getfield 103, 3) := by decide +kernel
theorem dX4_turn_33 : decode cX4_turn 33 = .ok (.istore_n 3, 1) := by decide +kernel
theorem dX4_turn_34 : decode cX4_turn 34 = .ok (.aload_n 0, 1) := by decide +kernel
theorem dX4_turn_35 : decode cX4_turn 35 = .ok (.getfield 10, 3) := by decide +kernel
theorem dX4_turn_38 : decode cX4_turn 38 = .ok (.getfield 99, 3) := by decide +kernel
theorem dX4_turn_41 : decode cX4_turn 41 = .ok (.iload_n 1, 1) := by decide +kernel
theorem dX4_turn_42 : decode cX4_turn 42 = .ok (.aaload, 1) := by decide +kernel
theorem dX4_turn_43 : decode cX4_turn 43 = .ok (.iload_n 2, 1) := by decide +kernel
theorem dX4_turn_44 : decode cX4_turn 44 = .ok (.putfield 103, 3) := by decide +kernel
theorem dX4_turn_47 : decode cX4_turn 47 = .ok (.iload_n 3, 1) := by decide +kernel
theorem dX4_turn_48 : decode cX4_turn 48 = .ok (.ireturn, 1) := by decide +kernel
theorem dX4_as_0 : decode cX4_as 0 = .ok (.aload_n 0, 1) := by decide +kernel
theorem dX4_as_1 : decode cX4_as 1 = .ok (.iload_n 1, 1) := by decide +kernel
theorem dX4_as_2 : decode cX4_as 2 = .ok (.invokevirtual 96, 3) := by decide +kernel
theorem dX4_as_5 : decode cX4_as 5 = .ok (.ifCond .eq 10, 3) := by decide +kernel
theorem dX4_as_8 : decode cX4_as 8 = .ok (.iload_n 2, 1) := by decide +kernel
theorem dX4_as_9 : decode cX4_as 9 = .ok (.invokestatic 82, 3) := by decide +kernel
theorem dX4_as_12 : decode cX4_as 12 = .ok (.ifCond .ne 9, 3) := by decide +kernel
theorem dX4_as_15 : decode cX4_as 15 = .ok (.aload_n 0, 1) := by decide +kernel
theorem dX4_as_16 : decode cX4_as 16 = .ok (.iconst 0, 1) := by decide +kernel
theorem dX4_as_17 : decode cX4_as 17 = .ok (.invokevirtual 54, 3) := by decide +kernel
theorem dX4_as_20 : decode cX4_as 20 = .ok (.ireturn, 1) := by decide +kernel
theorem dX4_as_21 : decode cX4_as 21 = .ok (.aload_n 0, 1) := by decide +kernel
theorem dX4_as_22 : decode cX4_as 22 = .ok (.getfield 10, 3) := by decide +kernel
theorem dX4_as_25 : decode cX4_as 25 = .ok (.getfield 99, 3) := by decide +kernel
theorem dX4_as_28 : decode cX4_as 28 = .ok (.iload_n 1, 1) := by decide +kernel
theorem dX4_as_29 : decode cX4_as 29 = .ok (.aaload, 1) := by decide +kernel
theorem dX4_as_30 : decode cX4_as 30 = .ok (.astore_n 3, 1) := by decide +kernel
theorem dX4_as_31 : decode cX4_as 31 = .ok (.aload_n 3, 1) := by decide +kernel
theorem dX4_as_32 : decode cX4_as 32 = .ok (.getfield 103, 3) := by decide +kernel
theorem dX4_as_35 : decode cX4_as 35 = .ok (.iload_n 2, 1) := by decide +kernel
theorem dX4_as_36 : decode cX4_as 36 = .ok (.invokestatic 132, 3) := by decide +kernel
theorem dX4_as_39 : decode cX4_as 39 = .ok (.ifCond .eq 10, 3) := by decide +kernel
theorem dX4_as_42 : decode cX4_as 42 = .ok (.aload_n 3, 1) := by decide +kernel
theorem dX4_as_43 : decode cX4_as 43 = .ok (.getfield 106, 3) := by decide +kernel
theorem dX4_as_46 : decode cX4_as 46 = .ok (.goto 8, 3) := by decide +kernel
theorem dX4_as_49 : decode cX4_as 49 = .ok (.aload_n 0, 1) := by decide +kernel
theorem dX4_as_50 : decode cX4_as 50 = .ok (.iconst 2, 1) := by decide +kernel
theorem dX4_as_51 : decode cX4_as 51 = .ok (.invokevirtual 54, 3) := by decide +kernel
theorem dX4_as_54 : decode cX4_as 54 = .ok (.ireturn, 1) := by decide +kernel
theorem dX4_cut_0 : decode cX4_cut 0 = .ok (.iload_n 1, 1) := by decide +kernel
theorem dX4_cut_1 : decode cX4_cut 1 = .ok (.invokestatic 136, 3) := by decide +kernel
theorem dX4_cut_4 : decode cX4_cut 4 = .ok (.ifCond .eq 21, 3) := by decide +kernel
theorem dX4_cut_7 : decode cX4_cut 7 = .ok (.iload_n 2, 1) := by decide +kernel
theorem dX4_cut_8 : decode cX4_cut 8 = .ok (.invokestatic 47, 3) := by decide +kernel
theorem dX4_cut_11 : decode cX4_cut 11 = .ok (.ifCond .eq 14, 3) := by decide +kernel
theorem dX4_cut_14 : decode cX4_cut 14 = .ok (.iload_n 3, 1) := by decide +kernel
theorem dX4_cut_15 : decode cX4_cut 15 = .ok (.iconst 1, 1) := by decide +kernel
theorem dX4_cut_16 : decode cX4_cut 16 = .ok (.sipush 999, 3) := by decide +kernel
theorem dX4_cut_19 : decode cX4_cut 19 = .ok (.invokestatic 128, 3) := by decide +kernel
theorem dX4_cut_22 : decode cX4_cut 22 = .ok (.ifCond .ne 9, 3) := by decide +kernel
theorem dX4_cut_25 : decode cX4_cut 25 = .ok (.aload_n 0, 1) := by decide +kernel
theorem dX4_cut_26 : decode cX4_cut 26 = .ok (.iconst 0, 1) := by decide +kernel
theorem dX4_cut_27 : decode cX4_cut 27 = .ok (.invokevirtual 54, 3) := by decide +kernel
theorem dX4_cut_30 : decode cX4_cut 30 = .ok (.ireturn, 1) := by decide +kernel
theorem dX4_cut_31 : decode cX4_cut 31 = .ok (.iload_n 3, 1) := by decide +kernel
theorem dX4_cut_32 : decode cX4_cut 32 = .ok (.aload_n 0, 1) := by decide +kernel
theorem dX4_cut_33 : decode cX4_cut 33 = .ok (.getfield 10, 3) := by decide +kernel
theorem dX4_cut_36 : decode cX4_cut 36 = .ok (.getfield 61, 3) := by decide +kernel
theorem dX4_cut_39 : decode cX4_cut 39 = .ok (.iload_n 2, 1) := by decide +kernel
theorem dX4_cut_40 : decode cX4_cut 40 = .ok (.iaload, 1) := by decide +kernel
theorem dX4_cut_41 : decode cX4_cut 41 = .ok (.if_icmp .le 9, 3) := by decide +kernel
theorem dX4_cut_44 : decode cX4_cut 44 = .ok (.aload_n 0, 1) := by decide +kernel
theorem dX4_cut_45 : decode cX4_cut 45 = .ok (.iconst 4, 1) := by decide +kernel
theorem dX4_cut_46 : decode cX4_cut 46 = .ok (.invokevirtual 54, 3) := by decide +kernel
theorem dX4_cut_49 : decode cX4_cut 49 = .ok (.ireturn, 1) := by decide +kernel
theorem dX4_cut_50 : decode cX4_cut 50 = .ok (.iload_n 3, 1) := by decide +kernel
theorem dX4_cut_51 : decode cX4_cut 51 = .ok (.aload_n 0, 1) := by decide +kernel
theorem dX4_cut_52 : decode cX4_cut 52 = .ok (.getfield 10, 3) := by decide +kernel
theorem dX4_cut_55 : decode cX4_cut 55 = .ok (.iload_n 1, 1) := by decide +kernel
theorem dX4_cut_56 : decode cX4_cut 56 = .ok (.iload_n 2, 1) := by decide +kernel
theorem dX4_cut_57 : decode cX4_cut 57 = .ok (.invokevirtual 139, 3) := by decide +kernel
theorem dX4_cut_60 : decode cX4_cut 60 = .ok (.if_icmp .le 9, 3) := by decide +kernel
theorem dX4_cut_63 : decode cX4_cut 63 = .ok (.aload_n 0, 1) := by decide +kernel
theorem dX4_cut_64 : decode cX4_cut 64 = .ok (.iconst 1, 1) := by decide +kernel
theorem dX4_cut_65 : decode cX4_cut 65 = .ok (.invokevirtual 54, 3) := by decide +kernel
theorem dX4_cut_68 : decode cX4_cut 68 = .ok (.ireturn, 1) := by decide +kernel
theorem dX4_cut_69 : decode cX4_cut 69 = .ok (.aload_n 0, 1) := by decide +kernel
theorem dX4_cut_70 : decode cX4_cut 70 = .ok (.getfield 10, 3) := by decide +kernel
theorem dX4_cut_73 : decode cX4_cut 73 = .ok (.iload_n 1, 1) := by decide +kernel
theorem dX4_cut_74 : decode cX4_cut 74 = .ok (.iload_n 2, 1) := by decide +kernel
theorem dX4_cut_75 : decode cX4_cut 75 = .ok (.iload_n 3, 1) := by decide +kernel
theorem dX4_cut_76 : decode cX4_cut 76 = .ok (.invokevirtual 142, 3) := by decide +kernel
theorem dX4_cut_79 : decode cX4_cut 79 = .ok (.aload_n 0, 1) := by decide +kernel
theorem dX4_cut_80 : decode cX4_cut 80 = .ok (.getfield 10, 3) := by decide +kernel
theorem dX4_cut_83 : decode cX4_cut 83 = .ok (.getfield 146, 3) := by decide +kernel
theorem dX4_cut_86 : decode cX4_cut 86 = .ok (.iload_n 1, 1) := by decide +kernel
theorem dX4_cut_87 : decode cX4_cut 87 = .ok (.aaload, 1) := by decide +kernel
theorem dX4_cut_88 : decode cX4_cut 88 = .ok (.iload_n 2, 1) := by decide +kernel
theorem dX4_cut_89 : decode cX4_cut 89 = .ok (.iaload, 1) := by decide +kernel
theorem dX4_cut_90 : decode cX4_cut 90 = .ok (.ireturn, 1) := by decide +kernel
theorem dX4_coatOf_0 : decode cX4_coatOf 0 = .ok (.iload_n 1, 1) := by decide +kernel
theorem dX4_coatOf_1 : decode cX4_coatOf 1 = .ok (.invokestatic 136, 3) := by decide +kernel
theorem dX4_coatOf_4 : decode cX4_coatOf 4 = .ok (.ifCond .ne 9, 3) := by decide +kernel
theorem dX4_coatOf_7 : decode cX4_coatOf 7 = .ok (.aload_n 0, 1) := by decide +kernel
theorem dX4_coatOf_8 : decode cX4_coatOf 8 = .ok (.iconst 0, 1) := by decide +kernel
theorem dX4_coatOf_9 : decode cX4_coatOf 9 = .ok (.invokevirtual 54, 3) := by decide +kernel
theorem dX4_coatOf_12 : decode cX4_coatOf 12 = .ok (.ireturn, 1) := by decide +kernel
theorem dX4_coatOf_13 : decode cX4_coatOf 13 = .ok (.iload_n 2, 1) := by decide +kernel
theorem dX4_coatOf_14 : decode cX4_coatOf 14 = .ok (.tableswitch 70 0 3 #[30, 39, 48, 61], 30) := by decide +kernel
theorem dX4_coatOf_44 : decode cX4_coatOf 44 = .ok (.aload_n 0, 1) := by decide +kernel
theorem dX4_coatOf_45 : decode cX4_coatOf 45 = .ok (.getfield 10, 3) := by decide +kernel
theorem dX4_coatOf_48 : decode cX4_coatOf 48 = .ok (.iload_n 1, 1) := by decide +kernel
theorem dX4_coatOf_49 : decode cX4_coatOf 49 = .ok (.invokevirtual 150, 3) := by decide +kernel
theorem dX4_coatOf_52 : decode cX4_coatOf 52 = .ok (.ireturn, 1) := by decide +kernel
theorem dX4_coatOf_53 : decode cX4_coatOf 53 = .ok (.aload_n 0, 1) := by decide +kernel
theorem dX4_coatOf_54 : decode cX4_coatOf 54 = .ok (.getfield 10, 3) := by decide +kernel
theorem dX4_coatOf_57 : decode cX4_coatOf 57 = .ok (.iload_n 1, 1) := by decide +kernel
theorem dX4_coatOf_58 : decode cX4_coatOf 58 = .ok (.invokevirtual 153, 3) := by decide +kernel
theorem dX4_coatOf_61 : decode cX4_coatOf 61 = .ok (.ireturn, 1) := by decide +kernel
theorem dX4_coatOf_62 : decode cX4_coatOf 62 = .ok (.aload_n 0, 1) := by decide +kernel
theorem dX4_coatOf_63 : decode cX4_coatOf 63 = .ok (.getfield 10, 3) := by decide +kernel
theorem dX4_coatOf_66 : decode cX4_coatOf 66 = .ok (.getfield 146, 3) := by decide +kernel
theorem dX4_coatOf_69 : decode cX4_coatOf 69 = .ok (.iload_n 1, 1) := by decide +kernel
theorem dX4_coatOf_70 : decode cX4_coatOf 70 = .ok (.aaload, 1) := by decide +kernel
theorem dX4_coatOf_71 : decode cX4_coatOf 71 = .ok (.invokestatic 75, 3) := by decide +kernel
theorem dX4_coatOf_74 : decode cX4_coatOf 74 = .ok (.ireturn, 1) := by decide +kernel
theorem dX4_coatOf_75 : decode cX4_coatOf 75 = .ok (.aload_n 0, 1) := by decide +kernel
theorem dX4_coatOf_76 : decode cX4_coatOf 76 = .ok (.getfield 10, 3) := by decide +kernel
theorem dX4_coatOf_79 : decode cX4_coatOf 79 = .ok (.iload_n 1, 1) := by decide +kernel
theorem dX4_coatOf_80 : decode cX4_coatOf 80 = .ok (.invokevirtual 156, 3) := by decide +kernel
theorem dX4_coatOf_83 : decode cX4_coatOf 83 = .ok (.ireturn, 1) := by decide +kernel
theorem dX4_coatOf_84 : decode cX4_coatOf 84 = .ok (.aload_n 0, 1) := by decide +kernel
theorem dX4_coatOf_85 : decode cX4_coatOf 85 = .ok (.iconst 0, 1) := by decide +kernel
theorem dX4_coatOf_86 : decode cX4_coatOf 86 = .ok (.invokevirtual 54, 3) := by decide +kernel
theorem dX4_coatOf_89 : decode cX4_coatOf 89 = .ok (.ireturn, 1) := by decide +kernel
theorem dX4_unpick_0 : decode cX4_unpick 0 = .ok (.iload_n 1, 1) := by decide +kernel
theorem dX4_unpick_1 : decode cX4_unpick 1 = .ok (.invokestatic 136, 3) := by decide +kernel
theorem dX4_unpick_4 : decode cX4_unpick 4 = .ok (.ifCond .ne 9, 3) := by decide +kernel
theorem dX4_unpick_7 : decode cX4_unpick 7 = .ok (.aload_n 0, 1) := by decide +kernel
theorem dX4_unpick_8 : decode cX4_unpick 8 = .ok (.iconst 0, 1) := by decide +kernel
theorem dX4_unpick_9 : decode cX4_unpick 9 = .ok (.invokevirtual 54, 3) := by decide +kernel
theorem dX4_unpick_12 : decode cX4_unpick 12 = .ok (.ireturn, 1) := by decide +kernel
theorem dX4_unpick_13 : decode cX4_unpick 13 = .ok (.aload_n 0, 1) := by decide +kernel
theorem dX4_unpick_14 : decode cX4_unpick 14 = .ok (.getfield 10, 3) := by decide +kernel
theorem dX4_unpick_17 : decode cX4_unpick 17 = .ok (.getfield 146, 3) := by decide +kernel
theorem dX4_unpick_20 : decode cX4_unpick 20 = .ok (.iload_n 1, 1) := by decide +kernel
theorem dX4_unpick_21 : decode cX4_unpick 21 = .ok (.aaload, 1) := by decide +kernel
theorem dX4_unpick_22 : decode cX4_unpick 22 = .ok (.invokestatic 75, 3) := by decide +kernel
theorem dX4_unpick_25 : decode cX4_unpick 25 = .ok (.istore_n 2, 1) := by decide +kernel
theorem dX4_unpick_26 : decode cX4_unpick 26 = .ok (.aload_n 0, 1) := by decide +kernel
theorem dX4_unpick_27 : decode cX4_unpick 27 = .ok (.getfield 10, 3) := by decide +kernel
theorem dX4_unpick_30 : decode cX4_unpick 30 = .ok (.iload_n 1, 1) := by decide +kernel
theorem dX4_unpick_31 : decode cX4_unpick 31 = .ok (.invokevirtual 159, 3) := by decide +kernel
theorem dX4_unpick_34 : decode cX4_unpick 34 = .ok (.iload_n 2, 1) := by decide +kernel
theorem dX4_unpick_35 : decode cX4_unpick 35 = .ok (.ireturn, 1) := by decide +kernel
theorem dX4_months_0 : decode cX4_months 0 = .ok (.iload_n 1, 1) := by decide +kernel
theorem dX4_months_1 : decode cX4_months 1 = .ok (.iconst 1, 1) := by decide +kernel
theorem dX4_months_2 : decode cX4_months 2 = .ok (.bipush 60, 2) := by decide +kernel
theorem dX4_months_4 : decode cX4_months 4 = .ok (.invokestatic 128, 3) := by decide +kernel
theorem dX4_months_7 : decode cX4_months 7 = .ok (.ifCond .ne 9, 3) := by decide +kernel
theorem dX4_months_10 : decode cX4_months 10 = .ok (.aload_n 0, 1) := by decide +kernel
theorem dX4_months_11 : decode cX4_months 11 = .ok (.iconst 0, 1) := by decide +kernel
theorem dX4_months_12 : decode cX4_months 12 = .ok (.invokevirtual 54, 3) := by decide +kernel
theorem dX4_months_15 : decode cX4_months 15 = .ok (.ireturn, 1) := by decide +kernel
theorem dX4_months_16 : decode cX4_months 16 = .ok (.aload_n 0, 1) := by decide +kernel
theorem dX4_months_17 : decode cX4_months 17 = .ok (.getfield 10, 3) := by decide +kernel
theorem dX4_months_20 : decode cX4_months 20 = .ok (.getfield 67, 3) := by decide +kernel
theorem dX4_months_23 : decode cX4_months 23 = .ok (.iload_n 1, 1) := by decide +kernel
theorem dX4_months_24 : decode cX4_months 24 = .ok (.iadd, 1) := by decide +kernel
theorem dX4_months_25 : decode cX4_months 25 = .ok (.sipush 9999, 3) := by decide +kernel
theorem dX4_months_28 : decode cX4_months 28 = .ok (.if_icmp .le 9, 3) := by decide +kernel
theorem dX4_months_31 : decode cX4_months 31 = .ok (.aload_n 0, 1) := by decide +kernel
theorem dX4_months_32 : decode cX4_months 32 = .ok (.iconst 4, 1) := by decide +kernel
theorem dX4_months_33 : decode cX4_months 33 = .ok (.invokevirtual 54, 3) := by decide +kernel
theorem dX4_months_36 : decode cX4_months 36 = .ok (.ireturn, 1) := by decide +kernel
theorem dX4_months_37 : decode cX4_months 37 = .ok (.aload_n 0, 1) := by decide +kernel
theorem dX4_months_38 : decode cX4_months 38 = .ok (.getfield 10, 3) := by decide +kernel
theorem dX4_months_41 : decode cX4_months 41 = .ok (.iload_n 1, 1) := by decide +kernel
theorem dX4_months_42 : decode cX4_months 42 = .ok (.invokevirtual 163, 3) := by decide +kernel
theorem dX4_months_45 : decode cX4_months 45 = .ok (.aload_n 0, 1) := by decide +kernel
theorem dX4_months_46 : decode cX4_months 46 = .ok (.getfield 10, 3) := by decide +kernel
theorem dX4_months_49 : decode cX4_months 49 = .ok (.getfield 61, 3) := by decide +kernel
theorem dX4_months_52 : decode cX4_months 52 = .ok (.invokestatic 75, 3) := by decide +kernel
theorem dX4_months_55 : decode cX4_months 55 = .ok (.ireturn, 1) := by decide +kernel
theorem dX4_on_0 : decode cX4_on 0 = .ok (.aload_n 0, 1) := by decide +kernel
theorem dX4_on_1 : decode cX4_on 1 = .ok (.iload_n 1, 1) := by decide +kernel
theorem dX4_on_2 : decode cX4_on 2 = .ok (.invokevirtual 96, 3) := by decide +kernel
theorem dX4_on_5 : decode cX4_on 5 = .ok (.ifCond .eq 22, 3) := by decide +kernel
theorem dX4_on_8 : decode cX4_on 8 = .ok (.iload_n 2, 1) := by decide +kernel
theorem dX4_on_9 : decode cX4_on 9 = .ok (.iconst 0, 1) := by decide +kernel
theorem dX4_on_10 : decode cX4_on 10 = .ok (.bipush 120, 2) := by decide +kernel
theorem dX4_on_12 : decode cX4_on 12 = .ok (.invokestatic 128, 3) := by decide +kernel
theorem dX4_on_15 : decode cX4_on 15 = .ok (.ifCond .eq 12, 3) := by decide +kernel
theorem dX4_on_18 : decode cX4_on 18 = .ok (.iload_n 3, 1) := by decide +kernel
theorem dX4_on_19 : decode cX4_on 19 = .ok (.iconst 0, 1) := by decide +kernel
theorem dX4_on_20 : decode cX4_on 20 = .ok (.iconst 1, 1) := by decide +kernel
theorem dX4_on_21 : decode cX4_on 21 = .ok (.invokestatic 128, 3) := by decide +kernel
theorem dX4_on_24 : decode cX4_on 24 = .ok (.ifCond .ne 9, 3) := by decide +kernel
theorem dX4_on_27 : decode cX4_on 27 = .ok (.aload_n 0, 1) := by decide +kernel
theorem dX4_on_28 : decode cX4_on 28 = .ok (.iconst 0, 1) := by decide +kernel
theorem dX4_on_29 : decode cX4_on 29 = .ok (.invokevirtual 54, 3) := by decide +kernel
theorem dX4_on_32 : decode cX4_on 32 = .ok (.ireturn, 1) := by decide +kernel
theorem dX4_on_33 : decode cX4_on 33 = .ok (.aload_n 0, 1) := by decide +kernel
theorem dX4_on_34 : decode cX4_on 34 = .ok (.getfield 25, 3) := by decide +kernel
theorem dX4_on_37 : decode cX4_on 37 = .ok (.aload_n 0, 1) := by decide +kernel
theorem dX4_on_38 : decode cX4_on 38 = .ok (.getfield 10, 3) := by decide +kernel
theorem dX4_on_41 : decode cX4_on 41 = .ok (.getfield 99, 3) := by decide +kernel
theorem dX4_on_44 : decode cX4_on 44 = .ok (.iload_n 1, 1) := by decide +kernel
theorem dX4_on_45 : decode cX4_on 45 = .ok (.aaload, 1) := by decide +kernel
theorem dX4_on_46 : decode cX4_on 46 = .ok (.invokevirtual 166, 3) := by decide +kernel
theorem dX4_on_49 : decode cX4_on 49 = .ok (.aload_n 0, 1) := by decide +kernel
theorem dX4_on_50 : decode cX4_on 50 = .ok (.iload_n 2, 1) := by decide +kernel
theorem dX4_on_51 : decode cX4_on 51 = .ok (.invokevirtual 170, 3) := by decide +kernel
theorem dX4_on_54 : decode cX4_on 54 = .ok (.iload_n 3, 1) := by decide +kernel
theorem dX4_on_55 : decode cX4_on 55 = .ok (.ifCond .ne 13, 3) := by decide +kernel
theorem dX4_on_58 : decode cX4_on 58 = .ok (.aload_n 0, 1) := by decide +kernel
theorem dX4_on_59 : decode cX4_on 59 = .ok (.getfield 25, 3) := by decide +kernel
theorem dX4_on_62 : decode cX4_on 62 = .ok (.getfield 109, 3) := by decide +kernel
theorem dX4_on_65 : decode cX4_on 65 = .ok (.goto 10, 3) := by decide +kernel
theorem dX4_on_68 : decode cX4_on 68 = .ok (.aload_n 0, 1) := by decide +kernel
theorem dX4_on_69 : decode cX4_on 69 = .ok (.getfield 25, 3) := by decide +kernel
theorem dX4_on_72 : decode cX4_on 72 = .ok (.getfield 106, 3) := by decide +kernel
theorem dX4_on_75 : decode cX4_on 75 = .ok (.ireturn, 1) := by decide +kernel
theorem dX4_then_0 : decode cX4_then 0 = .ok (.iload_n 1, 1) := by decide +kernel
theorem dX4_then_1 : decode cX4_then 1 = .ok (.invokestatic 47, 3) := by decide +kernel
theorem dX4_then_4 : decode cX4_then 4 = .ok (.ifCond .eq 22, 3) := by decide +kernel
theorem dX4_then_7 : decode cX4_then 7 = .ok (.iload_n 2, 1) := by decide +kernel
theorem dX4_then_8 : decode cX4_then 8 = .ok (.iconst 0, 1) := by decide +kernel
theorem dX4_then_9 : decode cX4_then 9 = .ok (.bipush 120, 2) := by decide +kernel
theorem dX4_then_11 : decode cX4_then 11 = .ok (.invokestatic 128, 3) := by decide +kernel
theorem dX4_then_14 : decode cX4_then 14 = .ok (.ifCond .eq 12, 3) := by decide +kernel
theorem dX4_then_17 : decode cX4_then 17 = .ok (.iload_n 3, 1) := by decide +kernel
theorem dX4_then_18 : decode cX4_then 18 = .ok (.iconst 0, 1) := by decide +kernel
theorem dX4_then_19 : decode cX4_then 19 = .ok (.iconst 1, 1) := by decide +kernel
theorem dX4_then_20 : decode cX4_then 20 = .ok (.invokestatic 128, 3) := by decide +kernel
theorem dX4_then_23 : decode cX4_then 23 = .ok (.ifCond .ne 9, 3) := by decide +kernel
theorem dX4_then_26 : decode cX4_then 26 = .ok (.aload_n 0, 1) := by decide +kernel
theorem dX4_then_27 : decode cX4_then 27 = .ok (.iconst 0, 1) := by decide +kernel
theorem dX4_then_28 : decode cX4_then 28 = .ok (.invokevirtual 54, 3) := by decide +kernel
theorem dX4_then_31 : decode cX4_then 31 = .ok (.ireturn, 1) := by decide +kernel
theorem dX4_then_32 : decode cX4_then 32 = .ok (.aload_n 0, 1) := by decide +kernel
theorem dX4_then_33 : decode cX4_then 33 = .ok (.getfield 19, 3) := by decide +kernel
theorem dX4_then_36 : decode cX4_then 36 = .ok (.aload_n 0, 1) := by decide +kernel
theorem dX4_then_37 : decode cX4_then 37 = .ok (.getfield 10, 3) := by decide +kernel
theorem dX4_then_40 : decode cX4_then 40 = .ok (.invokevirtual 173, 3) := by decide +kernel
theorem dX4_then_43 : decode cX4_then 43 = .ok (.aload_n 0, 1) := by decide +kernel
theorem dX4_then_44 : decode cX4_then 44 = .ok (.getfield 19, 3) := by decide +kernel
theorem dX4_then_47 : decode cX4_then 47 = .ok (.iload_n 2, 1) := by decide +kernel
theorem dX4_then_48 : decode cX4_then 48 = .ok (.invokevirtual 163, 3) := by decide +kernel
theorem dX4_then_51 : decode cX4_then 51 = .ok (.iload_n 3, 1) := by decide +kernel
theorem dX4_then_52 : decode cX4_then 52 = .ok (.ifCond .ne 15, 3) := by decide +kernel
theorem dX4_then_55 : decode cX4_then 55 = .ok (.aload_n 0, 1) := by decide +kernel
theorem dX4_then_56 : decode cX4_then 56 = .ok (.getfield 19, 3) := by decide +kernel
theorem dX4_then_59 : decode cX4_then 59 = .ok (.getfield 61, 3) := by decide +kernel
theorem dX4_then_62 : decode cX4_then 62 = .ok (.iload_n 1, 1) := by decide +kernel
theorem dX4_then_63 : decode cX4_then 63 = .ok (.iaload, 1) := by decide +kernel
theorem dX4_then_64 : decode cX4_then 64 = .ok (.goto 12, 3) := by decide +kernel
theorem dX4_then_67 : decode cX4_then 67 = .ok (.aload_n 0, 1) := by decide +kernel
theorem dX4_then_68 : decode cX4_then 68 = .ok (.getfield 19, 3) := by decide +kernel
theorem dX4_then_71 : decode cX4_then 71 = .ok (.getfield 64, 3) := by decide +kernel
theorem dX4_then_74 : decode cX4_then 74 = .ok (.iload_n 1, 1) := by decide +kernel
theorem dX4_then_75 : decode cX4_then 75 = .ok (.iaload, 1) := by decide +kernel
theorem dX4_then_76 : decode cX4_then 76 = .ok (.ireturn, 1) := by decide +kernel
theorem dX4_enough_0 : decode cX4_enough 0 = .ok (.iload_n 1, 1) := by decide +kernel
theorem dX4_enough_1 : decode cX4_enough 1 = .ok (.invokestatic 47, 3) := by decide +kernel
theorem dX4_enough_4 : decode cX4_enough 4 = .ok (.ifCond .eq 14, 3) := by decide +kernel
theorem dX4_enough_7 : decode cX4_enough 7 = .ok (.iload_n 2, 1) := by decide +kernel
theorem dX4_enough_8 : decode cX4_enough 8 = .ok (.iconst 0, 1) := by decide +kernel
theorem dX4_enough_9 : decode cX4_enough 9 = .ok (.sipush 9999, 3) := by decide +kernel
theorem dX4_enough_12 : decode cX4_enough 12 = .ok (.invokestatic 128, 3) := by decide +kernel
theorem dX4_enough_15 : decode cX4_enough 15 = .ok (.ifCond .ne 9, 3) := by decide +kernel
theorem dX4_enough_18 : decode cX4_enough 18 = .ok (.aload_n 0, 1) := by decide +kernel
theorem dX4_enough_19 : decode cX4_enough 19 = .ok (.iconst 0, 1) := by decide +kernel
theorem dX4_enough_20 : decode cX4_enough 20 = .ok (.invokevirtual 54, 3) := by decide +kernel
theorem dX4_enough_23 : decode cX4_enough 23 = .ok (.ireturn, 1) := by decide +kernel
theorem dX4_enough_24 : decode cX4_enough 24 = .ok (.aload_n 0, 1) := by decide +kernel
theorem dX4_enough_25 : decode cX4_enough 25 = .ok (.getfield 19, 3) := by decide +kernel
theorem dX4_enough_28 : decode cX4_enough 28 = .ok (.aload_n 0, 1) := by decide +kernel
theorem dX4_enough_29 : decode cX4_enough 29 = .ok (.getfield 10, 3) := by decide +kernel
theorem dX4_enough_32 : decode cX4_enough 32 = .ok (.invokevirtual 173, 3) := by decide +kernel
theorem dX4_enough_35 : decode cX4_enough 35 = .ok (.iconst 0, 1) := by decide +kernel
theorem dX4_enough_36 : decode cX4_enough 36 = .ok (.istore_n 3, 1) := by decide +kernel
theorem dX4_enough_37 : decode cX4_enough 37 = .ok (.iload_n 3, 1) := by decide +kernel
theorem dX4_enough_38 : decode cX4_enough 38 = .ok (.bipush 120, 2) := by decide +kernel
theorem dX4_enough_40 : decode cX4_enough 40 = .ok (.if_icmp .gt 31, 3) := by decide +kernel
theorem dX4_enough_43 : decode cX4_enough 43 = .ok (.aload_n 0, 1) := by decide +kernel
theorem dX4_enough_44 : decode cX4_enough 44 = .ok (.getfield 19, 3) := by decide +kernel
theorem dX4_enough_47 : decode cX4_enough 47 = .ok (.getfield 61, 3) := by decide +kernel
theorem dX4_enough_50 : decode cX4_enough 50 = .ok (.iload_n 1, 1) := by decide +kernel
theorem dX4_enough_51 : decode cX4_enough 51 = .ok (.iaload, 1) := by decide +kernel
theorem dX4_enough_52 : decode cX4_enough 52 = .ok (.iload_n 2, 1) := by decide +kernel
theorem dX4_enough_53 : decode cX4_enough 53 = .ok (.if_icmp .lt 5, 3) := by decide +kernel
theorem dX4_enough_56 : decode cX4_enough 56 = .ok (.iload_n 3, 1) := by decide +kernel
theorem dX4_enough_57 : decode cX4_enough 57 = .ok (.ireturn, 1) := by decide +kernel
theorem dX4_enough_58 : decode cX4_enough 58 = .ok (.aload_n 0, 1) := by decide +kernel
theorem dX4_enough_59 : decode cX4_enough 59 = .ok (.getfield 19, 3) := by decide +kernel
theorem dX4_enough_62 : decode cX4_enough 62 = .ok (.invokevirtual 176, 3) := by decide +kernel
theorem dX4_enough_65 : decode cX4_enough 65 = .ok (.iinc 3 1, 3) := by decide +kernel
theorem dX4_enough_68 : decode cX4_enough 68 = .ok (.goto (-31), 3) := by decide +kernel
theorem dX4_enough_71 : decode cX4_enough 71 = .ok (.aload_n 0, 1) := by decide +kernel
theorem dX4_enough_72 : decode cX4_enough 72 = .ok (.iconst 3, 1) := by decide +kernel
theorem dX4_enough_73 : decode cX4_enough 73 = .ok (.invokevirtual 54, 3) := by decide +kernel
theorem dX4_enough_76 : decode cX4_enough 76 = .ok (.ireturn, 1) := by decide +kernel
theorem dX4_calm_0 : decode cX4_calm 0 = .ok (.aload_n 0, 1) := by decide +kernel
theorem dX4_calm_1 : decode cX4_calm 1 = .ok (.iload_n 1, 1) := by decide +kernel
theorem dX4_calm_2 : decode cX4_calm 2 = .ok (.invokevirtual 96, 3) := by decide +kernel
theorem dX4_calm_5 : decode cX4_calm 5 = .ok (.ifCond .ne 9, 3) := by decide +kernel
theorem dX4_calm_8 : decode cX4_calm 8 = .ok (.aload_n 0, 1) := by decide +kernel
theorem dX4_calm_9 : decode cX4_calm 9 = .ok (.iconst 0, 1) := by decide +kernel
theorem dX4_calm_10 : decode cX4_calm 10 = .ok (.invokevirtual 54, 3) := by decide +kernel
theorem dX4_calm_13 : decode cX4_calm 13 = .ok (.ireturn, 1) := by decide +kernel
theorem dX4_calm_14 : decode cX4_calm 14 = .ok (.aload_n 0, 1) := by decide +kernel
theorem dX4_calm_15 : decode cX4_calm 15 = .ok (.getfield 10, 3) := by decide +kernel
theorem dX4_calm_18 : decode cX4_calm 18 = .ok (.getfield 99, 3) := by decide +kernel
theorem dX4_calm_21 : decode cX4_calm 21 = .ok (.iload_n 1, 1) := by decide +kernel
theorem dX4_calm_22 : decode cX4_calm 22 = .ok (.aaload, 1) := by decide +kernel
theorem dX4_calm_23 : decode cX4_calm 23 = .ok (.getfield 106, 3) := by decide +kernel
theorem dX4_calm_26 : decode cX4_calm 26 = .ok (.istore_n 2, 1) := by decide +kernel
theorem dX4_calm_27 : decode cX4_calm 27 = .ok (.aload_n 0, 1) := by decide +kernel
theorem dX4_calm_28 : decode cX4_calm 28 = .ok (.getfield 10, 3) := by decide +kernel
theorem dX4_calm_31 : decode cX4_calm 31 = .ok (.getfield 99, 3) := by decide +kernel
theorem dX4_calm_34 : decode cX4_calm 34 = .ok (.iload_n 1, 1) := by decide +kernel
theorem dX4_calm_35 : decode cX4_calm 35 = .ok (.aaload, 1) := by decide +kernel
theorem dX4_calm_36 : decode cX4_calm 36 = .ok (.getfield 103, 3) := by decide +kernel
theorem dX4_calm_39 : decode cX4_calm 39 = .ok (.invokestatic 112, 3) := by decide +kernel
theorem dX4_calm_42 : decode cX4_calm 42 = .ok (.istore_n 3, 1) := by decide +kernel
theorem dX4_calm_43 : decode cX4_calm 43 = .ok (.iconst 0, 1) := by decide +kernel
theorem dX4_calm_44 : decode cX4_calm 44 = .ok (.istore 4, 2) := by decide +kernel
theorem dX4_calm_46 : decode cX4_calm 46 = .ok (.iload 4, 2) := by decide +kernel
theorem dX4_calm_48 : decode cX4_calm 48 = .ok (.bipush 120, 2) := by decide +kernel
theorem dX4_calm_50 : decode cX4_calm 50 = .ok (.if_icmp .gt 20, 3) := by decide +kernel
theorem dX4_calm_53 : decode cX4_calm 53 = .ok (.iload_n 2, 1) := by decide +kernel
theorem dX4_calm_54 : decode cX4_calm 54 = .ok (.ifCond .gt 6, 3) := by decide +kernel
theorem dX4_calm_57 : decode cX4_calm 57 = .ok (.iload 4, 2) := by decide +kernel
theorem dX4_calm_59 : decode cX4_calm 59 = .ok (.ireturn, 1) := by decide +kernel
theorem dX4_calm_60 : decode cX4_calm 60 = .ok (.iload_n 2, 1) := by decide +kernel
theorem dX4_calm_61 : decode cX4_calm 61 = .ok (.iload_n 3, 1) := by decide +kernel
theorem dX4_calm_62 : decode cX4_calm 62 = .ok (.isub, 1) := by decide +kernel
theorem dX4_calm_63 : decode cX4_calm 63 = .ok (.istore_n 2, 1) := by decide +kernel
theorem dX4_calm_64 : decode cX4_calm 64 = .ok (.iinc 4 1, 3) := by decide +kernel
theorem dX4_calm_67 : decode cX4_calm 67 = .ok (.goto (-21), 3) := by decide +kernel
theorem dX4_calm_70 : decode cX4_calm 70 = .ok (.aload_n 0, 1) := by decide +kernel
theorem dX4_calm_71 : decode cX4_calm 71 = .ok (.iconst 3, 1) := by decide +kernel
theorem dX4_calm_72 : decode cX4_calm 72 = .ok (.invokevirtual 54, 3) := by decide +kernel
theorem dX4_calm_75 : decode cX4_calm 75 = .ok (.ireturn, 1) := by decide +kernel
theorem dX4_kind_0 : decode cX4_kind 0 = .ok (.aload_n 0, 1) := by decide +kernel
theorem dX4_kind_1 : decode cX4_kind 1 = .ok (.iload_n 1, 1) := by decide +kernel
theorem dX4_kind_2 : decode cX4_kind 2 = .ok (.invokevirtual 96, 3) := by decide +kernel
theorem dX4_kind_5 : decode cX4_kind 5 = .ok (.ifCond .eq 13, 3) := by decide +kernel
theorem dX4_kind_8 : decode cX4_kind 8 = .ok (.iload_n 2, 1) := by decide +kernel
theorem dX4_kind_9 : decode cX4_kind 9 = .ok (.iconst 1, 1) := by decide +kernel
theorem dX4_kind_10 : decode cX4_kind 10 = .ok (.bipush 60, 2) := by decide +kernel
theorem dX4_kind_12 : decode cX4_kind 12 = .ok (.invokestatic 128, 3) := by decide +kernel
theorem dX4_kind_15 : decode cX4_kind 15 = .ok (.ifCond .ne 9, 3) := by decide +kernel
theorem dX4_kind_18 : decode cX4_kind 18 = .ok (.aload_n 0, 1) := by decide +kernel
theorem dX4_kind_19 : decode cX4_kind 19 = .ok (.iconst 0, 1) := by decide +kernel
theorem dX4_kind_20 : decode cX4_kind 20 = .ok (.invokevirtual 54, 3) := by decide +kernel
theorem dX4_kind_23 : decode cX4_kind 23 = .ok (.ireturn, 1) := by decide +kernel
theorem dX4_kind_24 : decode cX4_kind 24 = .ok (.iconst 0, 1) := by decide +kernel
theorem dX4_kind_25 : decode cX4_kind 25 = .ok (.istore_n 3, 1) := by decide +kernel
theorem dX4_kind_26 : decode cX4_kind 26 = .ok (.iconst (-1), 1) := by decide +kernel
theorem dX4_kind_27 : decode cX4_kind 27 = .ok (.istore 4, 2) := by decide +kernel
theorem dX4_kind_29 : decode cX4_kind 29 = .ok (.iconst 0, 1) := by decide +kernel
theorem dX4_kind_30 : decode cX4_kind 30 = .ok (.istore 5, 2) := by decide +kernel
theorem dX4_kind_32 : decode cX4_kind 32 = .ok (.iload 5, 2) := by decide +kernel
theorem dX4_kind_34 : decode cX4_kind 34 = .ok (.bipush 6, 2) := by decide +kernel
theorem dX4_kind_36 : decode cX4_kind 36 = .ok (.if_icmp .ge 68, 3) := by decide +kernel
theorem dX4_kind_39 : decode cX4_kind 39 = .ok (.aload_n 0, 1) := by decide +kernel
theorem dX4_kind_40 : decode cX4_kind 40 = .ok (.getfield 19, 3) := by decide +kernel
theorem dX4_kind_43 : decode cX4_kind 43 = .ok (.aload_n 0, 1) := by decide +kernel
theorem dX4_kind_44 : decode cX4_kind 44 = .ok (.getfield 10, 3) := by decide +kernel
theorem dX4_kind_47 : decode cX4_kind 47 = .ok (.invokevirtual 173, 3) := by decide +kernel
theorem dX4_kind_50 : decode cX4_kind 50 = .ok (.aload_n 0, 1) := by decide +kernel
theorem dX4_kind_51 : decode cX4_kind 51 = .ok (.getfield 19, 3) := by decide +kernel
theorem dX4_kind_54 : decode cX4_kind 54 = .ok (.getfield 99, 3) := by decide +kernel
theorem dX4_kind_57 : decode cX4_kind 57 = .ok (.iload_n 1, 1) := by decide +kernel
theorem dX4_kind_58 : decode cX4_kind 58 = .ok (.aaload, 1) := by decide +kernel
theorem dX4_kind_59 : decode cX4_kind 59 = .ok (.iload 5, 2) := by decide +kernel
theorem dX4_kind_61 : decode cX4_kind 61 = .ok (.putfield 103, 3) := by decide +kernel
theorem dX4_kind_64 : decode cX4_kind 64 = .ok (.aload_n 0, 1) := by decide +kernel
theorem dX4_kind_65 : decode cX4_kind 65 = .ok (.getfield 19, 3) := by decide +kernel
theorem dX4_kind_68 : decode cX4_kind 68 = .ok (.iload_n 2, 1) := by decide +kernel
theorem dX4_kind_69 : decode cX4_kind 69 = .ok (.invokevirtual 163, 3) := by decide +kernel
theorem dX4_kind_72 : decode cX4_kind 72 = .ok (.aload_n 0, 1) := by decide +kernel
theorem dX4_kind_73 : decode cX4_kind 73 = .ok (.getfield 19, 3) := by decide +kernel
theorem dX4_kind_76 : decode cX4_kind 76 = .ok (.getfield 61, 3) := by decide +kernel
theorem dX4_kind_79 : decode cX4_kind 79 = .ok (.invokestatic 75, 3) := by decide +kernel
theorem dX4_kind_82 : decode cX4_kind 82 = .ok (.istore 6, 2) := by decide +kernel
theorem dX4_kind_84 : decode cX4_kind 84 = .ok (.iload 6, 2) := by decide +kernel
theorem dX4_kind_86 : decode cX4_kind 86 = .ok (.iload 4, 2) := by decide +kernel
theorem dX4_kind_88 : decode cX4_kind 88 = .ok (.if_icmp .le 10, 3) := by decide +kernel
theorem dX4_kind_91 : decode cX4_kind 91 = .ok (.iload 6, 2) := by decide +kernel
theorem dX4_kind_93 : decode cX4_kind 93 = .ok (.istore 4, 2) := by decide +kernel
theorem dX4_kind_95 : decode cX4_kind 95 = .ok (.iload 5, 2) := by decide +kernel
theorem dX4_kind_97 : decode cX4_kind 97 = .ok (.istore_n 3, 1) := by decide +kernel
theorem dX4_kind_98 : decode cX4_kind 98 = .ok (.iinc 5 1, 3) := by decide +kernel
theorem dX4_kind_101 : decode cX4_kind 101 = .ok (.goto (-69), 3) := by decide +kernel
theorem dX4_kind_104 : decode cX4_kind 104 = .ok (.iload_n 3, 1) := by decide +kernel
theorem dX4_kind_105 : decode cX4_kind 105 = .ok (.ireturn, 1) := by decide +kernel
theorem dX4_cold_0 : decode cX4_cold 0 = .ok (.iload_n 1, 1) := by decide +kernel
theorem dX4_cold_1 : decode cX4_cold 1 = .ok (.invokestatic 47, 3) := by decide +kernel
theorem dX4_cold_4 : decode cX4_cold 4 = .ok (.ifCond .eq 24, 3) := by decide +kernel
theorem dX4_cold_7 : decode cX4_cold 7 = .ok (.iload_n 2, 1) := by decide +kernel
theorem dX4_cold_8 : decode cX4_cold 8 = .ok (.iconst 1, 1) := by decide +kernel
theorem dX4_cold_9 : decode cX4_cold 9 = .ok (.bipush 60, 2) := by decide +kernel
theorem dX4_cold_11 : decode cX4_cold 11 = .ok (.invokestatic 128, 3) := by decide +kernel
theorem dX4_cold_14 : decode cX4_cold 14 = .ok (.ifCond .eq 14, 3) := by decide +kernel
theorem dX4_cold_17 : decode cX4_cold 17 = .ok (.iload_n 3, 1) := by decide +kernel
theorem dX4_cold_18 : decode cX4_cold 18 = .ok (.iconst 0, 1) := by decide +kernel
theorem dX4_cold_19 : decode cX4_cold 19 = .ok (.sipush 9999, 3) := by decide +kernel
theorem dX4_cold_22 : decode cX4_cold 22 = .ok (.invokestatic 128, 3) := by decide +kernel
theorem dX4_cold_25 : decode cX4_cold 25 = .ok (.ifCond .ne 9, 3) := by decide +kernel
theorem dX4_cold_28 : decode cX4_cold 28 = .ok (.aload_n 0, 1) := by decide +kernel
theorem dX4_cold_29 : decode cX4_cold 29 = .ok (.iconst 0, 1) := by decide +kernel
theorem dX4_cold_30 : decode cX4_cold 30 = .ok (.invokevirtual 54, 3) := by decide +kernel
theorem dX4_cold_33 : decode cX4_cold 33 = .ok (.ireturn, 1) := by decide +kernel
theorem dX4_cold_34 : decode cX4_cold 34 = .ok (.bipush 20, 2) := by decide +kernel
theorem dX4_cold_36 : decode cX4_cold 36 = .ok (.istore 4, 2) := by decide +kernel
theorem dX4_cold_38 : decode cX4_cold 38 = .ok (.iload 4, 2) := by decide +kernel
theorem dX4_cold_40 : decode cX4_cold 40 = .ok (.bipush (-20), 2) := by decide +kernel
theorem dX4_cold_42 : decode cX4_cold 42 = .ok (.if_icmp .lt 55, 3) := by decide +kernel
theorem dX4_cold_45 : decode cX4_cold 45 = .ok (.aload_n 0, 1) := by decide +kernel
theorem dX4_cold_46 : decode cX4_cold 46 = .ok (.getfield 19, 3) := by decide +kernel
theorem dX4_cold_49 : decode cX4_cold 49 = .ok (.aload_n 0, 1) := by decide +kernel
theorem dX4_cold_50 : decode cX4_cold 50 = .ok (.getfield 10, 3) := by decide +kernel
theorem dX4_cold_53 : decode cX4_cold 53 = .ok (.invokevirtual 173, 3) := by decide +kernel
theorem dX4_cold_56 : decode cX4_cold 56 = .ok (.aload_n 0, 1) := by decide +kernel
theorem dX4_cold_57 : decode cX4_cold 57 = .ok (.getfield 19, 3) := by decide +kernel
theorem dX4_cold_60 : decode cX4_cold 60 = .ok (.getfield 58, 3) := by decide +kernel
theorem dX4_cold_63 : decode cX4_cold 63 = .ok (.iload_n 1, 1) := by decide +kernel
theorem dX4_cold_64 : decode cX4_cold 64 = .ok (.iload 4, 2) := by decide +kernel
theorem dX4_cold_66 : decode cX4_cold 66 = .ok (.iastore, 1) := by decide +kernel
theorem dX4_cold_67 : decode cX4_cold 67 = .ok (.aload_n 0, 1) := by decide +kernel
theorem dX4_cold_68 : decode cX4_cold 68 = .ok (.getfield 19, 3) := by decide +kernel
theorem dX4_cold_71 : decode cX4_cold 71 = .ok (.iload_n 2, 1) := by decide +kernel
theorem dX4_cold_72 : decode cX4_cold 72 = .ok (.invokevirtual 163, 3) := by decide +kernel
theorem dX4_cold_75 : decode cX4_cold 75 = .ok (.aload_n 0, 1) := by decide +kernel
theorem dX4_cold_76 : decode cX4_cold 76 = .ok (.getfield 19, 3) := by decide +kernel
theorem dX4_cold_79 : decode cX4_cold 79 = .ok (.getfield 61, 3) := by decide +kernel
theorem dX4_cold_82 : decode cX4_cold 82 = .ok (.iload_n 1, 1) := by decide +kernel
theorem dX4_cold_83 : decode cX4_cold 83 = .ok (.iaload, 1) := by decide +kernel
theorem dX4_cold_84 : decode cX4_cold 84 = .ok (.iload_n 3, 1) := by decide +kernel
theorem dX4_cold_85 : decode cX4_cold 85 = .ok (.if_icmp .lt 6, 3) := by decide +kernel
theorem dX4_cold_88 : decode cX4_cold 88 = .ok (.iload 4, 2) := by decide +kernel
theorem dX4_cold_90 : decode cX4_cold 90 = .ok (.ireturn, 1) := by decide +kernel
theorem dX4_cold_91 : decode cX4_cold 91 = .ok (.iinc 4 (-1), 3) := by decide +kernel
theorem dX4_cold_94 : decode cX4_cold 94 = .ok (.goto (-56), 3) := by decide +kernel
theorem dX4_cold_97 : decode cX4_cold 97 = .ok (.aload_n 0, 1) := by decide +kernel
theorem dX4_cold_98 : decode cX4_cold 98 = .ok (.iconst 3, 1) := by decide +kernel
theorem dX4_cold_99 : decode cX4_cold 99 = .ok (.invokevirtual 54, 3) := by decide +kernel
theorem dX4_cold_102 : decode cX4_cold 102 = .ok (.ireturn, 1) := by decide +kernel
theorem dX4_best_0 : decode cX4_best 0 = .ok (.iload_n 1, 1) := by decide +kernel
theorem dX4_best_1 : decode cX4_best 1 = .ok (.invokestatic 136, 3) := by decide +kernel
theorem dX4_best_4 : decode cX4_best 4 = .ok (.ifCond .eq 14, 3) := by decide +kernel
theorem dX4_best_7 : decode cX4_best 7 = .ok (.iload_n 2, 1) := by decide +kernel
theorem dX4_best_8 : decode cX4_best 8 = .ok (.iconst 1, 1) := by decide +kernel
theorem dX4_best_9 : decode cX4_best 9 = .ok (.sipush 999, 3) := by decide +kernel
theorem dX4_best_12 : decode cX4_best 12 = .ok (.invokestatic 128, 3) := by decide +kernel
theorem dX4_best_15 : decode cX4_best 15 = .ok (.ifCond .ne 9, 3) := by decide +kernel
theorem dX4_best_18 : decode cX4_best 18 = .ok (.aload_n 0, 1) := by decide +kernel
theorem dX4_best_19 : decode cX4_best 19 = .ok (.iconst 0, 1) := by decide +kernel
theorem dX4_best_20 : decode cX4_best 20 = .ok (.invokevirtual 54, 3) := by decide +kernel
theorem dX4_best_23 : decode cX4_best 23 = .ok (.ireturn, 1) := by decide +kernel
theorem dX4_best_24 : decode cX4_best 24 = .ok (.iconst (-1), 1) := by decide +kernel
theorem dX4_best_25 : decode cX4_best 25 = .ok (.istore_n 3, 1) := by decide +kernel
theorem dX4_best_26 : decode cX4_best 26 = .ok (.iconst (-1), 1) := by decide +kernel
theorem dX4_best_27 : decode cX4_best 27 = .ok (.istore 4, 2) := by decide +kernel
theorem dX4_best_29 : decode cX4_best 29 = .ok (.iconst 0, 1) := by decide +kernel
theorem dX4_best_30 : decode cX4_best 30 = .ok (.istore 5, 2) := by decide +kernel
theorem dX4_best_32 : decode cX4_best 32 = .ok (.iload 5, 2) := by decide +kernel
theorem dX4_best_34 : decode cX4_best 34 = .ok (.bipush 12, 2) := by decide +kernel
theorem dX4_best_36 : decode cX4_best 36 = .ok (.if_icmp .ge 95, 3) := by decide +kernel
theorem dX4_best_39 : decode cX4_best 39 = .ok (.iload_n 2, 1) := by decide +kernel
theorem dX4_best_40 : decode cX4_best 40 = .ok (.aload_n 0, 1) := by decide +kernel
theorem dX4_best_41 : decode cX4_best 41 = .ok (.getfield 10, 3) := by decide +kernel
theorem dX4_best_44 : decode cX4_best 44 = .ok (.getfield 61, 3) := by decide +kernel
theorem dX4_best_47 : decode cX4_best 47 = .ok (.iload 5, 2) := by decide +kernel
theorem dX4_best_49 : decode cX4_best 49 = .ok (.iaload, 1) := by decide +kernel
theorem dX4_best_50 : decode cX4_best 50 = .ok (.if_icmp .gt 75, 3) := by decide +kernel
theorem dX4_best_53 : decode cX4_best 53 = .ok (.iload_n 2, 1) := by decide +kernel
theorem dX4_best_54 : decode cX4_best 54 = .ok (.aload_n 0, 1) := by decide +kernel
theorem dX4_best_55 : decode cX4_best 55 = .ok (.getfield 10, 3) := by decide +kernel
theorem dX4_best_58 : decode cX4_best 58 = .ok (.iload_n 1, 1) := by decide +kernel
theorem dX4_best_59 : decode cX4_best 59 = .ok (.iload 5, 2) := by decide +kernel
theorem dX4_best_61 : decode cX4_best 61 = .ok (.invokevirtual 139, 3) := by decide +kernel
theorem dX4_best_64 : decode cX4_best 64 = .ok (.if_icmp .le 6, 3) := by decide +kernel
theorem dX4_best_67 : decode cX4_best 67 = .ok (.goto 58, 3) := by decide +kernel
theorem dX4_best_70 : decode cX4_best 70 = .ok (.aload_n 0, 1) := by decide +kernel
theorem dX4_best_71 : decode cX4_best 71 = .ok (.getfield 10, 3) := by decide +kernel
theorem dX4_best_74 : decode cX4_best 74 = .ok (.getfield 146, 3) := by decide +kernel
theorem dX4_best_77 : decode cX4_best 77 = .ok (.iload_n 1, 1) := by decide +kernel
theorem dX4_best_78 : decode cX4_best 78 = .ok (.aaload, 1) := by decide +kernel
theorem dX4_best_79 : decode cX4_best 79 = .ok (.iload 5, 2) := by decide +kernel
theorem dX4_best_81 : decode cX4_best 81 = .ok (.iaload, 1) := by decide +kernel
theorem dX4_best_82 : decode cX4_best 82 = .ok (.istore 6, 2) := by decide +kernel
theorem dX4_best_84 : decode cX4_best 84 = .ok (.aload_n 0, 1) := by decide +kernel
theorem dX4_best_85 : decode cX4_best 85 = .ok (.getfield 10, 3) := by decide +kernel
theorem dX4_best_88 : decode cX4_best 88 = .ok (.iload 5, 2) := by decide +kernel
theorem dX4_best_90 : decode cX4_best 90 = .ok (.iload 6, 2) := by decide +kernel
theorem dX4_best_92 : decode cX4_best 92 = .ok (.iload_n 2, 1) := by decide +kernel
theorem dX4_best_93 : decode cX4_best 93 = .ok (.iadd, 1) := by decide +kernel
theorem dX4_best_94 : decode cX4_best 94 = .ok (.invokevirtual 179, 3) := by decide +kernel
theorem dX4_best_97 : decode cX4_best 97 = .ok (.aload_n 0, 1) := by decide +kernel
theorem dX4_best_98 : decode cX4_best 98 = .ok (.getfield 10, 3) := by decide +kernel
theorem dX4_best_101 : decode cX4_best 101 = .ok (.iload 5, 2) := by decide +kernel
theorem dX4_best_103 : decode cX4_best 103 = .ok (.iload 6, 2) := by decide +kernel
theorem dX4_best_105 : decode cX4_best 105 = .ok (.invokevirtual 179, 3) := by decide +kernel
theorem dX4_best_108 : decode cX4_best 108 = .ok (.isub, 1) := by decide +kernel
theorem dX4_best_109 : decode cX4_best 109 = .ok (.istore 7, 2) := by decide +kernel
theorem dX4_best_111 : decode cX4_best 111 = .ok (.iload 7, 2) := by decide +kernel
theorem dX4_best_113 : decode cX4_best 113 = .ok (.iload 4, 2) := by decide +kernel
theorem dX4_best_115 : decode cX4_best 115 = .ok (.if_icmp .le 10, 3) := by decide +kernel
theorem dX4_best_118 : decode cX4_best 118 = .ok (.iload 7, 2) := by decide +kernel
theorem dX4_best_120 : decode cX4_best 120 = .ok (.istore 4, 2) := by decide +kernel
theorem dX4_best_122 : decode cX4_best 122 = .ok (.iload 5, 2) := by decide +kernel
theorem dX4_best_124 : decode cX4_best 124 = .ok (.istore_n 3, 1) := by decide +kernel
theorem dX4_best_125 : decode cX4_best 125 = .ok (.iinc 5 1, 3) := by decide +kernel
theorem dX4_best_128 : decode cX4_best 128 = .ok (.goto (-96), 3) := by decide +kernel
theorem dX4_best_131 : decode cX4_best 131 = .ok (.iload_n 3, 1) := by decide +kernel
theorem dX4_best_132 : decode cX4_best 132 = .ok (.ifCond .ge 11, 3) := by decide +kernel
theorem dX4_best_135 : decode cX4_best 135 = .ok (.aload_n 0, 1) := by decide +kernel
theorem dX4_best_136 : decode cX4_best 136 = .ok (.iconst 3, 1) := by decide +kernel
theorem dX4_best_137 : decode cX4_best 137 = .ok (.invokevirtual 54, 3) := by decide +kernel
theorem dX4_best_140 : decode cX4_best 140 = .ok (.goto 4, 3) := by decide +kernel
theorem dX4_best_143 : decode cX4_best 143 = .ok (.iload_n 3, 1) := by decide +kernel
theorem dX4_best_144 : decode cX4_best 144 = .ok (.ireturn, 1) := by decide +kernel
theorem dX4_bears_0 : decode cX4_bears 0 = .ok (.aload_n 0, 1) := by decide +kernel
theorem dX4_bears_1 : decode cX4_bears 1 = .ok (.iload_n 1, 1) := by decide +kernel
theorem dX4_bears_2 : decode cX4_bears 2 = .ok (.invokevirtual 96, 3) := by decide +kernel
theorem dX4_bears_5 : decode cX4_bears 5 = .ok (.ifCond .eq 24, 3) := by decide +kernel
theorem dX4_bears_8 : decode cX4_bears 8 = .ok (.iload_n 2, 1) := by decide +kernel
theorem dX4_bears_9 : decode cX4_bears 9 = .ok (.iconst 0, 1) := by decide +kernel
theorem dX4_bears_10 : decode cX4_bears 10 = .ok (.bipush 60, 2) := by decide +kernel
theorem dX4_bears_12 : decode cX4_bears 12 = .ok (.invokestatic 128, 3) := by decide +kernel
theorem dX4_bears_15 : decode cX4_bears 15 = .ok (.ifCond .eq 14, 3) := by decide +kernel
theorem dX4_bears_18 : decode cX4_bears 18 = .ok (.iload_n 3, 1) := by decide +kernel
theorem dX4_bears_19 : decode cX4_bears 19 = .ok (.iconst 0, 1) := by decide +kernel
theorem dX4_bears_20 : decode cX4_bears 20 = .ok (.sipush 1188, 3) := by decide +kernel
theorem dX4_bears_23 : decode cX4_bears 23 = .ok (.invokestatic 128, 3) := by decide +kernel
theorem dX4_bears_26 : decode cX4_bears 26 = .ok (.ifCond .ne 9, 3) := by decide +kernel
theorem dX4_bears_29 : decode cX4_bears 29 = .ok (.aload_n 0, 1) := by decide +kernel
theorem dX4_bears_30 : decode cX4_bears 30 = .ok (.iconst 0, 1) := by decide +kernel
theorem dX4_bears_31 : decode cX4_bears 31 = .ok (.invokevirtual 54, 3) := by decide +kernel
theorem dX4_bears_34 : decode cX4_bears 34 = .ok (.ireturn, 1) := by decide +kernel
theorem dX4_bears_35 : decode cX4_bears 35 = .ok (.bipush 99, 2) := by decide +kernel
theorem dX4_bears_37 : decode cX4_bears 37 = .ok (.istore 4, 2) := by decide +kernel
theorem dX4_bears_39 : decode cX4_bears 39 = .ok (.iload 4, 2) := by decide +kernel
theorem dX4_bears_41 : decode cX4_bears 41 = .ok (.ifCond .lt 53, 3) := by decide +kernel
theorem dX4_bears_44 : decode cX4_bears 44 = .ok (.aload_n 0, 1) := by decide +kernel
theorem dX4_bears_45 : decode cX4_bears 45 = .ok (.getfield 25, 3) := by decide +kernel
theorem dX4_bears_48 : decode cX4_bears 48 = .ok (.aload_n 0, 1) := by decide +kernel
theorem dX4_bears_49 : decode cX4_bears 49 = .ok (.getfield 10, 3) := by decide +kernel
theorem dX4_bears_52 : decode cX4_bears 52 = .ok (.getfield 99, 3) := by decide +kernel
theorem dX4_bears_55 : decode cX4_bears 55 = .ok (.iload_n 1, 1) := by decide +kernel
theorem dX4_bears_56 : decode cX4_bears 56 = .ok (.aaload, 1) := by decide +kernel
theorem dX4_bears_57 : decode cX4_bears 57 = .ok (.invokevirtual 166, 3) := by decide +kernel
theorem dX4_bears_60 : decode cX4_bears 60 = .ok (.aload_n 0, 1) := by decide +kernel
theorem dX4_bears_61 : decode cX4_bears 61 = .ok (.getfield 25, 3) := by decide +kernel
theorem dX4_bears_64 : decode cX4_bears 64 = .ok (.iload 4, 2) := by decide +kernel
theorem dX4_bears_66 : decode cX4_bears 66 = .ok (.putfield 106, 3) := by decide +kernel
theorem dX4_bears_69 : decode cX4_bears 69 = .ok (.aload_n 0, 1) := by decide +kernel
theorem dX4_bears_70 : decode cX4_bears 70 = .ok (.iload_n 2, 1) := by decide +kernel
theorem dX4_bears_71 : decode cX4_bears 71 = .ok (.invokevirtual 170, 3) := by decide +kernel
theorem dX4_bears_74 : decode cX4_bears 74 = .ok (.aload_n 0, 1) := by decide +kernel
theorem dX4_bears_75 : decode cX4_bears 75 = .ok (.getfield 25, 3) := by decide +kernel
theorem dX4_bears_78 : decode cX4_bears 78 = .ok (.getfield 109, 3) := by decide +kernel
theorem dX4_bears_81 : decode cX4_bears 81 = .ok (.iload_n 3, 1) := by decide +kernel
theorem dX4_bears_82 : decode cX4_bears 82 = .ok (.if_icmp .lt 6, 3) := by decide +kernel
theorem dX4_bears_85 : decode cX4_bears 85 = .ok (.iload 4, 2) := by decide +kernel
theorem dX4_bears_87 : decode cX4_bears 87 = .ok (.ireturn, 1) := by decide +kernel
theorem dX4_bears_88 : decode cX4_bears 88 = .ok (.iinc 4 (-1), 3) := by decide +kernel
theorem dX4_bears_91 : decode cX4_bears 91 = .ok (.goto (-52), 3) := by decide +kernel
theorem dX4_bears_94 : decode cX4_bears 94 = .ok (.aload_n 0, 1) := by decide +kernel
theorem dX4_bears_95 : decode cX4_bears 95 = .ok (.iconst 3, 1) := by decide +kernel
theorem dX4_bears_96 : decode cX4_bears 96 = .ok (.invokevirtual 54, 3) := by decide +kernel
theorem dX4_bears_99 : decode cX4_bears 99 = .ok (.ireturn, 1) := by decide +kernel
theorem dX4_milder_0 : decode cX4_milder 0 = .ok (.iload_n 1, 1) := by decide +kernel
theorem dX4_milder_1 : decode cX4_milder 1 = .ok (.iconst 1, 1) := by decide +kernel
theorem dX4_milder_2 : decode cX4_milder 2 = .ok (.bipush 60, 2) := by decide +kernel
theorem dX4_milder_4 : decode cX4_milder 4 = .ok (.invokestatic 128, 3) := by decide +kernel
theorem dX4_milder_7 : decode cX4_milder 7 = .ok (.ifCond .ne 9, 3) := by decide +kernel
theorem dX4_milder_10 : decode cX4_milder 10 = .ok (.aload_n 0, 1) := by decide +kernel
theorem dX4_milder_11 : decode cX4_milder 11 = .ok (.iconst 0, 1) := by decide +kernel
theorem dX4_milder_12 : decode cX4_milder 12 = .ok (.invokevirtual 54, 3) := by decide +kernel
theorem dX4_milder_15 : decode cX4_milder 15 = .ok (.ireturn, 1) := by decide +kernel
theorem dX4_milder_16 : decode cX4_milder 16 = .ok (.iconst 0, 1) := by decide +kernel
theorem dX4_milder_17 : decode cX4_milder 17 = .ok (.istore_n 2, 1) := by decide +kernel
theorem dX4_milder_18 : decode cX4_milder 18 = .ok (.iconst 0, 1) := by decide +kernel
theorem dX4_milder_19 : decode cX4_milder 19 = .ok (.istore_n 3, 1) := by decide +kernel
theorem dX4_milder_20 : decode cX4_milder 20 = .ok (.iconst 0, 1) := by decide +kernel
theorem dX4_milder_21 : decode cX4_milder 21 = .ok (.istore 4, 2) := by decide +kernel
theorem dX4_milder_23 : decode cX4_milder 23 = .ok (.iload 4, 2) := by decide +kernel
theorem dX4_milder_25 : decode cX4_milder 25 = .ok (.bipush 12, 2) := by decide +kernel
theorem dX4_milder_27 : decode cX4_milder 27 = .ok (.if_icmp .ge 84, 3) := by decide +kernel
theorem dX4_milder_30 : decode cX4_milder 30 = .ok (.aload_n 0, 1) := by decide +kernel
theorem dX4_milder_31 : decode cX4_milder 31 = .ok (.getfield 19, 3) := by decide +kernel
theorem dX4_milder_34 : decode cX4_milder 34 = .ok (.aload_n 0, 1) := by decide +kernel
theorem dX4_milder_35 : decode cX4_milder 35 = .ok (.getfield 10, 3) := by decide +kernel
theorem dX4_milder_38 : decode cX4_milder 38 = .ok (.invokevirtual 173, 3) := by decide +kernel
theorem dX4_milder_41 : decode cX4_milder 41 = .ok (.aload_n 0, 1) := by decide +kernel
theorem dX4_milder_42 : decode cX4_milder 42 = .ok (.getfield 19, 3) := by decide +kernel
theorem dX4_milder_45 : decode cX4_milder 45 = .ok (.getfield 58, 3) := by decide +kernel
theorem dX4_milder_48 : decode cX4_milder 48 = .ok (.iload 4, 2) := by decide +kernel
theorem dX4_milder_50 : decode cX4_milder 50 = .ok (.bipush 20, 2) := by decide +kernel
theorem dX4_milder_52 : decode cX4_milder 52 = .ok (.aload_n 0, 1) := by decide +kernel
theorem dX4_milder_53 : decode cX4_milder 53 = .ok (.getfield 19, 3) := by decide +kernel
theorem dX4_milder_56 : decode cX4_milder 56 = .ok (.getfield 58, 3) := by decide +kernel
theorem dX4_milder_59 : decode cX4_milder 59 = .ok (.iload 4, 2) := by decide +kernel
theorem dX4_milder_61 : decode cX4_milder 61 = .ok (.iaload, 1) := by decide +kernel
theorem dX4_milder_62 : decode cX4_milder 62 = .ok (.iconst 5, 1) := by decide +kernel
theorem dX4_milder_63 : decode cX4_milder 63 = .ok (.iadd, 1) := by decide +kernel
theorem dX4_milder_64 : decode cX4_milder 64 = .ok (.invokestatic 182, 3) := by decide +kernel
theorem dX4_milder_67 : decode cX4_milder 67 = .ok (.iastore, 1) := by decide +kernel
theorem dX4_milder_68 : decode cX4_milder 68 = .ok (.aload_n 0, 1) := by decide +kernel
theorem dX4_milder_69 : decode cX4_milder 69 = .ok (.getfield 19, 3) := by decide +kernel
theorem dX4_milder_72 : decode cX4_milder 72 = .ok (.iload_n 1, 1) := by decide +kernel
theorem dX4_milder_73 : decode cX4_milder 73 = .ok (.invokevirtual 163, 3) := by decide +kernel
theorem dX4_milder_76 : decode cX4_milder 76 = .ok (.aload_n 0, 1) := by decide +kernel
theorem dX4_milder_77 : decode cX4_milder 77 = .ok (.getfield 19, 3) := by decide +kernel
theorem dX4_milder_80 : decode cX4_milder 80 = .ok (.getfield 64, 3) := by decide +kernel
theorem dX4_milder_83 : decode cX4_milder 83 = .ok (.invokestatic 75, 3) := by decide +kernel
theorem dX4_milder_86 : decode cX4_milder 86 = .ok (.istore 5, 2) := by decide +kernel
theorem dX4_milder_88 : decode cX4_milder 88 = .ok (.iload 4, 2) := by decide +kernel
theorem dX4_milder_90 : decode cX4_milder 90 = .ok (.ifCond .eq 9, 3) := by decide +kernel
theorem dX4_milder_93 : decode cX4_milder 93 = .ok (.iload 5, 2) := by decide +kernel
theorem dX4_milder_95 : decode cX4_milder 95 = .ok (.iload_n 3, 1) := by decide +kernel
theorem dX4_milder_96 : decode cX4_milder 96 = .ok (.if_icmp .ge 9, 3) := by decide +kernel
theorem dX4_milder_99 : decode cX4_milder 99 = .ok (.iload 5, 2) := by decide +kernel
theorem dX4_milder_101 : decode cX4_milder 101 = .ok (.istore_n 3, 1) := by decide +kernel
theorem dX4_milder_102 : decode cX4_milder 102 = .ok (.iload 4, 2) := by decide +kernel
theorem dX4_milder_104 : decode cX4_milder 104 = .ok (.istore_n 2, 1) := by decide +kernel
theorem dX4_milder_105 : decode cX4_milder 105 = .ok (.iinc 4 1, 3) := by decide +kernel
theorem dX4_milder_108 : decode cX4_milder 108 = .ok (.goto (-85), 3) := by decide +kernel
theorem dX4_milder_111 : decode cX4_milder 111 = .ok (.iload_n 2, 1) := by decide +kernel
theorem dX4_milder_112 : decode cX4_milder 112 = .ok (.ireturn, 1) := by decide +kernel
theorem dX4_warmest_0 : decode cX4_warmest 0 = .ok (.iconst 0, 1) := by decide +kernel
theorem dX4_warmest_1 : decode cX4_warmest 1 = .ok (.istore_n 1, 1) := by decide +kernel
theorem dX4_warmest_2 : decode cX4_warmest 2 = .ok (.iconst (-1), 1) := by decide +kernel
theorem dX4_warmest_3 : decode cX4_warmest 3 = .ok (.istore_n 2, 1) := by decide +kernel
theorem dX4_warmest_4 : decode cX4_warmest 4 = .ok (.iconst 0, 1) := by decide +kernel
theorem dX4_warmest_5 : decode cX4_warmest 5 = .ok (.istore_n 3, 1) := by decide +kernel
theorem dX4_warmest_6 : decode cX4_warmest 6 = .ok (.iload_n 3, 1) := by decide +kernel
theorem dX4_warmest_7 : decode cX4_warmest 7 = .ok (.iconst 4, 1) := by decide +kernel
theorem dX4_warmest_8 : decode cX4_warmest 8 = .ok (.if_icmp .ge 30, 3) := by decide +kernel
theorem dX4_warmest_11 : decode cX4_warmest 11 = .ok (.aload_n 0, 1) := by decide +kernel
theorem dX4_warmest_12 : decode cX4_warmest 12 = .ok (.getfield 10, 3) := by decide +kernel
theorem dX4_warmest_15 : decode cX4_warmest 15 = .ok (.iload_n 3, 1) := by decide +kernel
theorem dX4_warmest_16 : decode cX4_warmest 16 = .ok (.invokevirtual 150, 3) := by decide +kernel
theorem dX4_warmest_19 : decode cX4_warmest 19 = .ok (.istore 4, 2) := by decide +kernel
theorem dX4_warmest_21 : decode cX4_warmest 21 = .ok (.iload 4, 2) := by decide +kernel
theorem dX4_warmest_23 : decode cX4_warmest 23 = .ok (.iload_n 2, 1) := by decide +kernel
theorem dX4_warmest_24 : decode cX4_warmest 24 = .ok (.if_icmp .le 8, 3) := by decide +kernel
theorem dX4_warmest_27 : decode cX4_warmest 27 = .ok (.iload 4, 2) := by decide +kernel
theorem dX4_warmest_29 : decode cX4_warmest 29 = .ok (.istore_n 2, 1) := by decide +kernel
theorem dX4_warmest_30 : decode cX4_warmest 30 = .ok (.iload_n 3, 1) := by decide +kernel
theorem dX4_warmest_31 : decode cX4_warmest 31 = .ok (.istore_n 1, 1) := by decide +kernel
theorem dX4_warmest_32 : decode cX4_warmest 32 = .ok (.iinc 3 1, 3) := by decide +kernel
theorem dX4_warmest_35 : decode cX4_warmest 35 = .ok (.goto (-29), 3) := by decide +kernel
theorem dX4_warmest_38 : decode cX4_warmest 38 = .ok (.iload_n 1, 1) := by decide +kernel
theorem dX4_warmest_39 : decode cX4_warmest 39 = .ok (.ireturn, 1) := by decide +kernel
theorem dX4_feed_0 : decode cX4_feed 0 = .ok (.iload_n 2, 1) := by decide +kernel
theorem dX4_feed_1 : decode cX4_feed 1 = .ok (.iconst 1, 1) := by decide +kernel
theorem dX4_feed_2 : decode cX4_feed 2 = .ok (.iconst 4, 1) := by decide +kernel
theorem dX4_feed_3 : decode cX4_feed 3 = .ok (.invokestatic 128, 3) := by decide +kernel
theorem dX4_feed_6 : decode cX4_feed 6 = .ok (.ifCond .ne 9, 3) := by decide +kernel
theorem dX4_feed_9 : decode cX4_feed 9 = .ok (.aload_n 0, 1) := by decide +kernel
theorem dX4_feed_10 : decode cX4_feed 10 = .ok (.iconst 0, 1) := by decide +kernel
theorem dX4_feed_11 : decode cX4_feed 11 = .ok (.invokevirtual 54, 3) := by decide +kernel
theorem dX4_feed_14 : decode cX4_feed 14 = .ok (.ireturn, 1) := by decide +kernel
theorem dX4_feed_15 : decode cX4_feed 15 = .ok (.aload_n 0, 1) := by decide +kernel
theorem dX4_feed_16 : decode cX4_feed 16 = .ok (.getfield 32, 3) := by decide +kernel
theorem dX4_feed_19 : decode cX4_feed 19 = .ok (.getfield 187, 3) := by decide +kernel
theorem dX4_feed_22 : decode cX4_feed 22 = .ok (.iload_n 2, 1) := by decide +kernel
theorem dX4_feed_23 : decode cX4_feed 23 = .ok (.iadd, 1) := by decide +kernel
theorem dX4_feed_24 : decode cX4_feed 24 = .ok (.bipush 120, 2) := by decide +kernel
theorem dX4_feed_26 : decode cX4_feed 26 = .ok (.if_icmp .le 9, 3) := by decide +kernel
theorem dX4_feed_29 : decode cX4_feed 29 = .ok (.aload_n 0, 1) := by decide +kernel
theorem dX4_feed_30 : decode cX4_feed 30 = .ok (.iconst 1, 1) := by decide +kernel
theorem dX4_feed_31 : decode cX4_feed 31 = .ok (.invokevirtual 54, 3) := by decide +kernel
theorem dX4_feed_34 : decode cX4_feed 34 = .ok (.ireturn, 1) := by decide +kernel
theorem dX4_feed_35 : decode cX4_feed 35 = .ok (.iload_n 2, 1) := by decide +kernel
theorem dX4_feed_36 : decode cX4_feed 36 = .ok (.iconst 1, 1) := by decide +kernel
theorem dX4_feed_37 : decode cX4_feed 37 = .ok (.isub, 1) := by decide +kernel
theorem dX4_feed_38 : decode cX4_feed 38 = .ok (.istore_n 3, 1) := by decide +kernel
theorem dX4_feed_39 : decode cX4_feed 39 = .ok (.iload_n 3, 1) := by decide +kernel
theorem dX4_feed_40 : decode cX4_feed 40 = .ok (.ifCond .lt 23, 3) := by decide +kernel
theorem dX4_feed_43 : decode cX4_feed 43 = .ok (.aload_n 0, 1) := by decide +kernel
theorem dX4_feed_44 : decode cX4_feed 44 = .ok (.getfield 32, 3) := by decide +kernel
theorem dX4_feed_47 : decode cX4_feed 47 = .ok (.iload_n 1, 1) := by decide +kernel
theorem dX4_feed_48 : decode cX4_feed 48 = .ok (.bipush 8, 2) := by decide +kernel
theorem dX4_feed_50 : decode cX4_feed 50 = .ok (.iload_n 3, 1) := by decide +kernel
theorem dX4_feed_51 : decode cX4_feed 51 = .ok (.imul, 1) := by decide +kernel
theorem dX4_feed_52 : decode cX4_feed 52 = .ok (.ishr, 1) := by decide +kernel
theorem dX4_feed_53 : decode cX4_feed 53 = .ok (.i2b, 1) := by decide +kernel
theorem dX4_feed_54 : decode cX4_feed 54 = .ok (.invokevirtual 188, 3) := by decide +kernel
theorem dX4_feed_57 : decode cX4_feed 57 = .ok (.iinc 3 (-1), 3) := by decide +kernel
theorem dX4_feed_60 : decode cX4_feed 60 = .ok (.goto (-21), 3) := by decide +kernel
theorem dX4_feed_63 : decode cX4_feed 63 = .ok (.aload_n 0, 1) := by decide +kernel
theorem dX4_feed_64 : decode cX4_feed 64 = .ok (.getfield 32, 3) := by decide +kernel
theorem dX4_feed_67 : decode cX4_feed 67 = .ok (.getfield 187, 3) := by decide +kernel
theorem dX4_feed_70 : decode cX4_feed 70 = .ok (.ireturn, 1) := by decide +kernel
theorem dX4_wipe_0 : decode cX4_wipe 0 = .ok (.aload_n 0, 1) := by decide +kernel
theorem dX4_wipe_1 : decode cX4_wipe 1 = .ok (.getfield 32, 3) := by decide +kernel
theorem dX4_wipe_4 : decode cX4_wipe 4 = .ok (.getfield 187, 3) := by decide +kernel
theorem dX4_wipe_7 : decode cX4_wipe 7 = .ok (.istore_n 1, 1) := by decide +kernel
theorem dX4_wipe_8 : decode cX4_wipe 8 = .ok (.aload_n 0, 1) := by decide +kernel
theorem dX4_wipe_9 : decode cX4_wipe 9 = .ok (.getfield 32, 3) := by decide +kernel
theorem dX4_wipe_12 : decode cX4_wipe 12 = .ok (.iconst 0, 1) := by decide +kernel
theorem dX4_wipe_13 : decode cX4_wipe 13 = .ok (.putfield 187, 3) := by decide +kernel
theorem dX4_wipe_16 : decode cX4_wipe 16 = .ok (.iload_n 1, 1) := by decide +kernel
theorem dX4_wipe_17 : decode cX4_wipe 17 = .ok (.ireturn, 1) := by decide +kernel
theorem dX4_parish_0 : decode cX4_parish 0 = .ok (.aload_n 0, 1) := by decide +kernel
theorem dX4_parish_1 : decode cX4_parish 1 = .ok (.getfield 19, 3) := by decide +kernel
theorem dX4_parish_4 : decode cX4_parish 4 = .ok (.aload_n 0, 1) := by decide +kernel
theorem dX4_parish_5 : decode cX4_parish 5 = .ok (.getfield 10, 3) := by decide +kernel
theorem dX4_parish_8 : decode cX4_parish 8 = .ok (.invokevirtual 173, 3) := by decide +kernel
theorem dX4_parish_11 : decode cX4_parish 11 = .ok (.aload_n 0, 1) := by decide +kernel
theorem dX4_parish_12 : decode cX4_parish 12 = .ok (.getfield 32, 3) := by decide +kernel
theorem dX4_parish_15 : decode cX4_parish 15 = .ok (.aload_n 0, 1) := by decide +kernel
theorem dX4_parish_16 : decode cX4_parish 16 = .ok (.getfield 19, 3) := by decide +kernel
theorem dX4_parish_19 : decode cX4_parish 19 = .ok (.invokevirtual 191, 3) := by decide +kernel
theorem dX4_parish_22 : decode cX4_parish 22 = .ok (.istore_n 1, 1) := by decide +kernel
theorem dX4_parish_23 : decode cX4_parish 23 = .ok (.iload_n 1, 1) := by decide +kernel
theorem dX4_parish_24 : decode cX4_parish 24 = .ok (.ifCond .lt 14, 3) := by decide +kernel
theorem dX4_parish_27 : decode cX4_parish 27 = .ok (.aload_n 0, 1) := by decide +kernel
theorem dX4_parish_28 : decode cX4_parish 28 = .ok (.getfield 10, 3) := by decide +kernel
theorem dX4_parish_31 : decode cX4_parish 31 = .ok (.aload_n 0, 1) := by decide +kernel
theorem dX4_parish_32 : decode cX4_parish 32 = .ok (.getfield 19, 3) := by decide +kernel
theorem dX4_parish_35 : decode cX4_parish 35 = .ok (.invokevirtual 173, 3) := by decide +kernel
theorem dX4_parish_38 : decode cX4_parish 38 = .ok (.aload_n 0, 1) := by decide +kernel
theorem dX4_parish_39 : decode cX4_parish 39 = .ok (.getfield 32, 3) := by decide +kernel
theorem dX4_parish_42 : decode cX4_parish 42 = .ok (.iconst 0, 1) := by decide +kernel
theorem dX4_parish_43 : decode cX4_parish 43 = .ok (.putfield 187, 3) := by decide +kernel
theorem dX4_parish_46 : decode cX4_parish 46 = .ok (.iload_n 1, 1) := by decide +kernel
theorem dX4_parish_47 : decode cX4_parish 47 = .ok (.ireturn, 1) := by decide +kernel
theorem dX4_sheet_0 : decode cX4_sheet 0 = .ok (.iload_n 1, 1) := by decide +kernel
theorem dX4_sheet_1 : decode cX4_sheet 1 = .ok (.invokestatic 195, 3) := by decide +kernel
theorem dX4_sheet_4 : decode cX4_sheet 4 = .ok (.ifCond .eq 25, 3) := by decide +kernel
theorem dX4_sheet_7 : decode cX4_sheet 7 = .ok (.iload_n 2, 1) := by decide +kernel
theorem dX4_sheet_8 : decode cX4_sheet 8 = .ok (.ifCond .eq 27, 3) := by decide +kernel
theorem dX4_sheet_11 : decode cX4_sheet 11 = .ok (.iload_n 2, 1) := by decide +kernel
theorem dX4_sheet_12 : decode cX4_sheet 12 = .ok (.bipush 8, 2) := by decide +kernel
theorem dX4_sheet_14 : decode cX4_sheet 14 = .ok (.if_icmp .eq 21, 3) := by decide +kernel
theorem dX4_sheet_17 : decode cX4_sheet 17 = .ok (.iload_n 2, 1) := by decide +kernel
theorem dX4_sheet_18 : decode cX4_sheet 18 = .ok (.bipush 16, 2) := by decide +kernel
theorem dX4_sheet_20 : decode cX4_sheet 20 = .ok (.if_icmp .eq 15, 3) := by decide +kernel
theorem dX4_sheet_23 : decode cX4_sheet 23 = .ok (.iload_n 2, 1) := by decide +kernel
theorem dX4_sheet_24 : decode cX4_sheet 24 = .ok (.bipush 64, 2) := by decide +kernel
theorem dX4_sheet_26 : decode cX4_sheet 26 = .ok (.if_icmp .eq 9, 3) := by decide +kernel
theorem dX4_sheet_29 : decode cX4_sheet 29 = .ok (.aload_n 0, 1) := by decide +kernel
theorem dX4_sheet_30 : decode cX4_sheet 30 = .ok (.iconst 0, 1) := by decide +kernel
theorem dX4_sheet_31 : decode cX4_sheet 31 = .ok (.invokevirtual 54, 3) := by decide +kernel
theorem dX4_sheet_34 : decode cX4_sheet 34 = .ok (.ireturn, 1) := by decide +kernel
theorem dX4_sheet_35 : decode cX4_sheet 35 = .ok (.iload_n 3, 1) := by decide +kernel
theorem dX4_sheet_36 : decode cX4_sheet 36 = .ok (.ifCond .ge 10, 3) := by decide +kernel
theorem dX4_sheet_39 : decode cX4_sheet 39 = .ok (.aload_n 0, 1) := by decide +kernel
theorem dX4_sheet_40 : decode cX4_sheet 40 = .ok (.bipush 6, 2) := by decide +kernel
theorem dX4_sheet_42 : decode cX4_sheet 42 = .ok (.invokevirtual 54, 3) := by decide +kernel
theorem dX4_sheet_45 : decode cX4_sheet 45 = .ok (.ireturn, 1) := by decide +kernel
theorem dX4_sheet_46 : decode cX4_sheet 46 = .ok (.iload_n 3, 1) := by decide +kernel
theorem dX4_sheet_47 : decode cX4_sheet 47 = .ok (.bipush 40, 2) := by decide +kernel
theorem dX4_sheet_49 : decode cX4_sheet 49 = .ok (.if_icmp .le 9, 3) := by decide +kernel
theorem dX4_sheet_52 : decode cX4_sheet 52 = .ok (.aload_n 0, 1) := by decide +kernel
theorem dX4_sheet_53 : decode cX4_sheet 53 = .ok (.iconst 0, 1) := by decide +kernel
theorem dX4_sheet_54 : decode cX4_sheet 54 = .ok (.invokevirtual 54, 3) := by decide +kernel
theorem dX4_sheet_57 : decode cX4_sheet 57 = .ok (.ireturn, 1) := by decide +kernel
theorem dX4_sheet_58 : decode cX4_sheet 58 = .ok (.aload_n 0, 1) := by decide +kernel
theorem dX4_sheet_59 : decode cX4_sheet 59 = .ok (.getfield 38, 3) := by decide +kernel
theorem dX4_sheet_62 : decode cX4_sheet 62 = .ok (.iload_n 1, 1) := by decide +kernel
theorem dX4_sheet_63 : decode cX4_sheet 63 = .ok (.aaload, 1) := by decide +kernel
theorem dX4_sheet_64 : decode cX4_sheet 64 = .ok (.iload_n 2, 1) := by decide +kernel
theorem dX4_sheet_65 : decode cX4_sheet 65 = .ok (.iload_n 2, 1) := by decide +kernel
theorem dX4_sheet_66 : decode cX4_sheet 66 = .ok (.ifCond .ne 7, 3) := by decide +kernel
theorem dX4_sheet_69 : decode cX4_sheet 69 = .ok (.iconst 0, 1) := by decide +kernel
theorem dX4_sheet_70 : decode cX4_sheet 70 = .ok (.goto 4, 3) := by decide +kernel
theorem dX4_sheet_73 : decode cX4_sheet 73 = .ok (.iload_n 3, 1) := by decide +kernel
theorem dX4_sheet_74 : decode cX4_sheet 74 = .ok (.invokevirtual 198, 3) := by decide +kernel
theorem dX4_sheet_77 : decode cX4_sheet 77 = .ok (.aload_n 0, 1) := by decide +kernel
theorem dX4_sheet_78 : decode cX4_sheet 78 = .ok (.getfield 38, 3) := by decide +kernel
theorem dX4_sheet_81 : decode cX4_sheet 81 = .ok (.iload_n 1, 1) := by decide +kernel
theorem dX4_sheet_82 : decode cX4_sheet 82 = .ok (.aaload, 1) := by decide +kernel
theorem dX4_sheet_83 : decode cX4_sheet 83 = .ok (.getfield 201, 3) := by decide +kernel
theorem dX4_sheet_86 : decode cX4_sheet 86 = .ok (.ireturn, 1) := by decide +kernel
theorem dX4_write_0 : decode cX4_write 0 = .ok (.iload_n 1, 1) := by decide +kernel
theorem dX4_write_1 : decode cX4_write 1 = .ok (.invokestatic 195, 3) := by decide +kernel
theorem dX4_write_4 : decode cX4_write 4 = .ok (.ifCond .ne 10, 3) := by decide +kernel
theorem dX4_write_7 : decode cX4_write 7 = .ok (.aload_n 0, 1) := by decide +kernel
theorem dX4_write_8 : decode cX4_write 8 = .ok (.iconst 0, 1) := by decide +kernel
theorem dX4_write_9 : decode cX4_write 9 = .ok (.invokevirtual 54, 3) := by decide +kernel
theorem dX4_write_12 : decode cX4_write 12 = .ok (.i2l, 1) := by decide +kernel
theorem dX4_write_13 : decode cX4_write 13 = .ok (.lreturn, 1) := by decide +kernel
theorem dX4_write_14 : decode cX4_write 14 = .ok (.aload_n 0, 1) := by decide +kernel
theorem dX4_write_15 : decode cX4_write 15 = .ok (.getfield 38, 3) := by decide +kernel
theorem dX4_write_18 : decode cX4_write 18 = .ok (.iload_n 1, 1) := by decide +kernel
theorem dX4_write_19 : decode cX4_write 19 = .ok (.aaload, 1) := by decide +kernel
theorem dX4_write_20 : decode cX4_write 20 = .ok (.astore 5, 2) := by decide +kernel
theorem dX4_write_22 : decode cX4_write 22 = .ok (.aload 5, 2) := by decide +kernel
theorem dX4_write_24 : decode cX4_write 24 = .ok (.invokevirtual 202, 3) := by decide +kernel
theorem dX4_write_27 : decode cX4_write 27 = .ok (.ifCond .eq 10, 3) := by decide +kernel
theorem dX4_write_30 : decode cX4_write 30 = .ok (.aload_n 0, 1) := by decide +kernel
theorem dX4_write_31 : decode cX4_write 31 = .ok (.iconst 5, 1) := by decide +kernel
theorem dX4_write_32 : decode cX4_write 32 = .ok (.invokevirtual 54, 3) := by decide +kernel
theorem dX4_write_35 : decode cX4_write 35 = .ok (.i2l, 1) := by decide +kernel
theorem dX4_write_36 : decode cX4_write 36 = .ok (.lreturn, 1) := by decide +kernel
theorem dX4_write_37 : decode cX4_write 37 = .ok (.iload_n 2, 1) := by decide +kernel
theorem dX4_write_38 : decode cX4_write 38 = .ok (.iconst 0, 1) := by decide +kernel
theorem dX4_write_39 : decode cX4_write 39 = .ok (.aload 5, 2) := by decide +kernel
theorem dX4_write_41 : decode cX4_write 41 = .ok (.getfield 201, 3) := by decide +kernel
theorem dX4_write_44 : decode cX4_write 44 = .ok (.iconst 1, 1) := by decide +kernel
theorem dX4_write_45 : decode cX4_write 45 = .ok (.isub, 1) := by decide +kernel
theorem dX4_write_46 : decode cX4_write 46 = .ok (.invokestatic 128, 3) := by decide +kernel
theorem dX4_write_49 : decode cX4_write 49 = .ok (.ifCond .ne 10, 3) := by decide +kernel
theorem dX4_write_52 : decode cX4_write 52 = .ok (.aload_n 0, 1) := by decide +kernel
theorem dX4_write_53 : decode cX4_write 53 = .ok (.iconst 0, 1) := by decide +kernel
theorem dX4_write_54 : decode cX4_write 54 = .ok (.invokevirtual 54, 3) := by decide +kernel
theorem dX4_write_57 : decode cX4_write 57 = .ok (.i2l, 1) := by decide +kernel
theorem dX4_write_58 : decode cX4_write 58 = .ok (.lreturn, 1) := by decide +kernel
theorem dX4_write_59 : decode cX4_write 59 = .ok (.aload 5, 2) := by decide +kernel
theorem dX4_write_61 : decode cX4_write 61 = .ok (.getfield 205, 3) := by decide +kernel
theorem dX4_write_64 : decode cX4_write 64 = .ok (.iload_n 2, 1) := by decide +kernel
theorem dX4_write_65 : decode cX4_write 65 = .ok (.laload, 1) := by decide +kernel
theorem dX4_write_66 : decode cX4_write 66 = .ok (.lstore 6, 2) := by decide +kernel
theorem dX4_write_68 : decode cX4_write 68 = .ok (.aload 5, 2) := by decide +kernel
theorem dX4_write_70 : decode cX4_write 70 = .ok (.iload_n 2, 1) := by decide +kernel
theorem dX4_write_71 : decode cX4_write 71 = .ok (.lload_n 3, 1) := by decide +kernel
theorem dX4_write_72 : decode cX4_write 72 = .ok (.invokevirtual 209, 3) := by decide +kernel
theorem dX4_write_75 : decode cX4_write 75 = .ok (.lload 6, 2) := by decide +kernel
theorem dX4_write_77 : decode cX4_write 77 = .ok (.lreturn, 1) := by decide +kernel
theorem dX4_copy_0 : decode cX4_copy 0 = .ok (.iload_n 1, 1) := by decide +kernel
theorem dX4_copy_1 : decode cX4_copy 1 = .ok (.invokestatic 195, 3) := by decide +kernel
theorem dX4_copy_4 : decode cX4_copy 4 = .ok (.ifCond .eq 10, 3) := by decide +kernel
theorem dX4_copy_7 : decode cX4_copy 7 = .ok (.iload_n 3, 1) := by decide +kernel
theorem dX4_copy_8 : decode cX4_copy 8 = .ok (.invokestatic 195, 3) := by decide +kernel
theorem dX4_copy_11 : decode cX4_copy 11 = .ok (.ifCond .ne 9, 3) := by decide +kernel
theorem dX4_copy_14 : decode cX4_copy 14 = .ok (.aload_n 0, 1) := by decide +kernel
theorem dX4_copy_15 : decode cX4_copy 15 = .ok (.iconst 0, 1) := by decide +kernel
theorem dX4_copy_16 : decode cX4_copy 16 = .ok (.invokevirtual 54, 3) := by decide +kernel
theorem dX4_copy_19 : decode cX4_copy 19 = .ok (.ireturn, 1) := by decide +kernel
theorem dX4_copy_20 : decode cX4_copy 20 = .ok (.aload_n 0, 1) := by decide +kernel
theorem dX4_copy_21 : decode cX4_copy 21 = .ok (.getfield 38, 3) := by decide +kernel
theorem dX4_copy_24 : decode cX4_copy 24 = .ok (.iload_n 1, 1) := by decide +kernel
theorem dX4_copy_25 : decode cX4_copy 25 = .ok (.aaload, 1) := by decide +kernel
theorem dX4_copy_26 : decode cX4_copy 26 = .ok (.astore 6, 2) := by decide +kernel
theorem dX4_copy_28 : decode cX4_copy 28 = .ok (.aload_n 0, 1) := by decide +kernel
theorem dX4_copy_29 : decode cX4_copy 29 = .ok (.getfield 38, 3) := by decide +kernel
theorem dX4_copy_32 : decode cX4_copy 32 = .ok (.iload_n 3, 1) := by decide +kernel
theorem dX4_copy_33 : decode cX4_copy 33 = .ok (.aaload, 1) := by decide +kernel
theorem dX4_copy_34 : decode cX4_copy 34 = .ok (.astore 7, 2) := by decide +kernel
theorem dX4_copy_36 : decode cX4_copy 36 = .ok (.aload 6, 2) := by decide +kernel
theorem dX4_copy_38 : decode cX4_copy 38 = .ok (.invokevirtual 202, 3) := by decide +kernel
theorem dX4_copy_41 : decode cX4_copy 41 = .ok (.ifCond .ne 11, 3) := by decide +kernel
theorem dX4_copy_44 : decode cX4_copy 44 = .ok (.aload 7, 2) := by decide +kernel
theorem dX4_copy_46 : decode cX4_copy 46 = .ok (.invokevirtual 202, 3) := by decide +kernel
theorem dX4_copy_49 : decode cX4_copy 49 = .ok (.ifCond .eq 9, 3) := by decide +kernel
theorem dX4_copy_52 : decode cX4_copy 52 = .ok (.aload_n 0, 1) := by decide +kernel
theorem dX4_copy_53 : decode cX4_copy 53 = .ok (.iconst 5, 1) := by decide +kernel
theorem dX4_copy_54 : decode cX4_copy 54 = .ok (.invokevirtual 54, 3) := by decide +kernel
theorem dX4_copy_57 : decode cX4_copy 57 = .ok (.ireturn, 1) := by decide +kernel
theorem dX4_copy_58 : decode cX4_copy 58 = .ok (.aload 6, 2) := by decide +kernel
theorem dX4_copy_60 : decode cX4_copy 60 = .ok (.getfield 213, 3) := by decide +kernel
theorem dX4_copy_63 : decode cX4_copy 63 = .ok (.aload 7, 2) := by decide +kernel
theorem dX4_copy_65 : decode cX4_copy 65 = .ok (.getfield 213, 3) := by decide +kernel
theorem dX4_copy_68 : decode cX4_copy 68 = .ok (.if_icmp .eq 9, 3) := by decide +kernel
theorem dX4_copy_71 : decode cX4_copy 71 = .ok (.aload_n 0, 1) := by decide +kernel
theorem dX4_copy_72 : decode cX4_copy 72 = .ok (.iconst 2, 1) := by decide +kernel
theorem dX4_copy_73 : decode cX4_copy 73 = .ok (.invokevirtual 54, 3) := by decide +kernel
theorem dX4_copy_76 : decode cX4_copy 76 = .ok (.ireturn, 1) := by decide +kernel
theorem dX4_copy_77 : decode cX4_copy 77 = .ok (.aload 6, 2) := by decide +kernel
theorem dX4_copy_79 : decode cX4_copy 79 = .ok (.iload_n 2, 1) := by decide +kernel
theorem dX4_copy_80 : decode cX4_copy 80 = .ok (.iload 5, 2) := by decide +kernel
theorem dX4_copy_82 : decode cX4_copy 82 = .ok (.invokevirtual 216, 3) := by decide +kernel
theorem dX4_copy_85 : decode cX4_copy 85 = .ok (.ifCond .eq 15, 3) := by decide +kernel
theorem dX4_copy_88 : decode cX4_copy 88 = .ok (.aload 7, 2) := by decide +kernel
theorem dX4_copy_90 : decode cX4_copy 90 = .ok (.iload 4, 2) := by decide +kernel
theorem dX4_copy_92 : decode cX4_copy 92 = .ok (.iload 5, 2) := by decide +kernel
theorem dX4_copy_94 : decode cX4_copy 94 = .ok (.invokevirtual 216, 3) := by decide +kernel
theorem dX4_copy_97 : decode cX4_copy 97 = .ok (.ifCond .ne 9, 3) := by decide +kernel
theorem dX4_copy_100 : decode cX4_copy 100 = .ok (.aload_n 0, 1) := by decide +kernel
theorem dX4_copy_101 : decode cX4_copy 101 = .ok (.iconst 0, 1) := by decide +kernel
theorem dX4_copy_102 : decode cX4_copy 102 = .ok (.invokevirtual 54, 3) := by decide +kernel
theorem dX4_copy_105 : decode cX4_copy 105 = .ok (.ireturn, 1) := by decide +kernel
theorem dX4_copy_106 : decode cX4_copy 106 = .ok (.aload 6, 2) := by decide +kernel
theorem dX4_copy_108 : decode cX4_copy 108 = .ok (.getfield 205, 3) := by decide +kernel
theorem dX4_copy_111 : decode cX4_copy 111 = .ok (.iload_n 2, 1) := by decide +kernel
theorem dX4_copy_112 : decode cX4_copy 112 = .ok (.aload 7, 2) := by decide +kernel
theorem dX4_copy_114 : decode cX4_copy 114 = .ok (.getfield 205, 3) := by decide +kernel
theorem dX4_copy_117 : decode cX4_copy 117 = .ok (.iload 4, 2) := by decide +kernel
theorem dX4_copy_119 : decode cX4_copy 119 = .ok (.iload 5, 2) := by decide +kernel
theorem dX4_copy_121 : decode cX4_copy 121 = .ok (.invokestatic 219, 3) := by decide +kernel
theorem dX4_copy_124 : decode cX4_copy 124 = .ok (.iload 5, 2) := by decide +kernel
theorem dX4_copy_126 : decode cX4_copy 126 = .ok (.ireturn, 1) := by decide +kernel
theorem dX4_lays_0 : decode cX4_lays 0 = .ok (.iload_n 1, 1) := by decide +kernel
theorem dX4_lays_1 : decode cX4_lays 1 = .ok (.invokestatic 195, 3) := by decide +kernel
theorem dX4_lays_4 : decode cX4_lays 4 = .ok (.ifCond .ne 9, 3) := by decide +kernel
theorem dX4_lays_7 : decode cX4_lays 7 = .ok (.aload_n 0, 1) := by decide +kernel
theorem dX4_lays_8 : decode cX4_lays 8 = .ok (.iconst 0, 1) := by decide +kernel
theorem dX4_lays_9 : decode cX4_lays 9 = .ok (.invokevirtual 54, 3) := by decide +kernel
theorem dX4_lays_12 : decode cX4_lays 12 = .ok (.ireturn, 1) := by decide +kernel
theorem dX4_lays_13 : decode cX4_lays 13 = .ok (.aload_n 0, 1) := by decide +kernel
theorem dX4_lays_14 : decode cX4_lays 14 = .ok (.getfield 38, 3) := by decide +kernel
theorem dX4_lays_17 : decode cX4_lays 17 = .ok (.iload_n 1, 1) := by decide +kernel
theorem dX4_lays_18 : decode cX4_lays 18 = .ok (.aaload, 1) := by decide +kernel
theorem dX4_lays_19 : decode cX4_lays 19 = .ok (.astore_n 2, 1) := by decide +kernel
theorem dX4_lays_20 : decode cX4_lays 20 = .ok (.aload_n 2, 1) := by decide +kernel
theorem dX4_lays_21 : decode cX4_lays 21 = .ok (.invokevirtual 202, 3) := by decide +kernel
theorem dX4_lays_24 : decode cX4_lays 24 = .ok (.ifCond .eq 9, 3) := by decide +kernel
theorem dX4_lays_27 : decode cX4_lays 27 = .ok (.aload_n 0, 1) := by decide +kernel
theorem dX4_lays_28 : decode cX4_lays 28 = .ok (.iconst 5, 1) := by decide +kernel
theorem dX4_lays_29 : decode cX4_lays 29 = .ok (.invokevirtual 54, 3) := by decide +kernel
theorem dX4_lays_32 : decode cX4_lays 32 = .ok (.ireturn, 1) := by decide +kernel
theorem dX4_lays_33 : decode cX4_lays 33 = .ok (.iconst 0, 1) := by decide +kernel
theorem dX4_lays_34 : decode cX4_lays 34 = .ok (.istore_n 3, 1) := by decide +kernel
theorem dX4_lays_35 : decode cX4_lays 35 = .ok (.iconst 0, 1) := by decide +kernel
theorem dX4_lays_36 : decode cX4_lays 36 = .ok (.istore 4, 2) := by decide +kernel
theorem dX4_lays_38 : decode cX4_lays 38 = .ok (.iload 4, 2) := by decide +kernel
theorem dX4_lays_40 : decode cX4_lays 40 = .ok (.bipush 12, 2) := by decide +kernel
theorem dX4_lays_42 : decode cX4_lays 42 = .ok (.if_icmp .ge 61, 3) := by decide +kernel
theorem dX4_lays_45 : decode cX4_lays 45 = .ok (.iload 4, 2) := by decide +kernel
theorem dX4_lays_47 : decode cX4_lays 47 = .ok (.aload_n 2, 1) := by decide +kernel
theorem dX4_lays_48 : decode cX4_lays 48 = .ok (.getfield 201, 3) := by decide +kernel
theorem dX4_lays_51 : decode cX4_lays 51 = .ok (.if_icmp .ge 52, 3) := by decide +kernel
theorem dX4_lays_54 : decode cX4_lays 54 = .ok (.aload_n 2, 1) := by decide +kernel
theorem dX4_lays_55 : decode cX4_lays 55 = .ok (.getfield 205, 3) := by decide +kernel
theorem dX4_lays_58 : decode cX4_lays 58 = .ok (.iload 4, 2) := by decide +kernel
theorem dX4_lays_60 : decode cX4_lays 60 = .ok (.laload, 1) := by decide +kernel
theorem dX4_lays_61 : decode cX4_lays 61 = .ok (.lstore 5, 2) := by decide +kernel
theorem dX4_lays_63 : decode cX4_lays 63 = .ok (.lload 5, 2) := by decide +kernel
theorem dX4_lays_65 : decode cX4_lays 65 = .ok (.ldc2_w 225, 3) := by decide +kernel
theorem dX4_lays_68 : decode cX4_lays 68 = .ok (.lcmp, 1) := by decide +kernel
theorem dX4_lays_69 : decode cX4_lays 69 = .ok (.ifCond .lt 28, 3) := by decide +kernel
theorem dX4_lays_72 : decode cX4_lays 72 = .ok (.lload 5, 2) := by decide +kernel
theorem dX4_lays_74 : decode cX4_lays 74 = .ok (.ldc2_w 227, 3) := by decide +kernel
theorem dX4_lays_77 : decode cX4_lays 77 = .ok (.lcmp, 1) := by decide +kernel
theorem dX4_lays_78 : decode cX4_lays 78 = .ok (.ifCond .gt 19, 3) := by decide +kernel
theorem dX4_lays_81 : decode cX4_lays 81 = .ok (.aload_n 0, 1) := by decide +kernel
theorem dX4_lays_82 : decode cX4_lays 82 = .ok (.getfield 10, 3) := by decide +kernel
theorem dX4_lays_85 : decode cX4_lays 85 = .ok (.getfield 58, 3) := by decide +kernel
theorem dX4_lays_88 : decode cX4_lays 88 = .ok (.iload 4, 2) := by decide +kernel
theorem dX4_lays_90 : decode cX4_lays 90 = .ok (.lload 5, 2) := by decide +kernel
theorem dX4_lays_92 : decode cX4_lays 92 = .ok (.l2i, 1) := by decide +kernel
theorem dX4_lays_93 : decode cX4_lays 93 = .ok (.iastore, 1) := by decide +kernel
theorem dX4_lays_94 : decode cX4_lays 94 = .ok (.iinc 3 1, 3) := by decide +kernel
theorem dX4_lays_97 : decode cX4_lays 97 = .ok (.iinc 4 1, 3) := by decide +kernel
theorem dX4_lays_100 : decode cX4_lays 100 = .ok (.goto (-62), 3) := by decide +kernel
theorem dX4_lays_103 : decode cX4_lays 103 = .ok (.iload_n 3, 1) := by decide +kernel
theorem dX4_lays_104 : decode cX4_lays 104 = .ok (.ireturn, 1) := by decide +kernel
theorem dX4_book_0 : decode cX4_book 0 = .ok (.iload_n 1, 1) := by decide +kernel
theorem dX4_book_1 : decode cX4_book 1 = .ok (.invokestatic 195, 3) := by decide +kernel
theorem dX4_book_4 : decode cX4_book 4 = .ok (.ifCond .ne 9, 3) := by decide +kernel
theorem dX4_book_7 : decode cX4_book 7 = .ok (.aload_n 0, 1) := by decide +kernel
theorem dX4_book_8 : decode cX4_book 8 = .ok (.iconst 0, 1) := by decide +kernel
theorem dX4_book_9 : decode cX4_book 9 = .ok (.invokevirtual 54, 3) := by decide +kernel
theorem dX4_book_12 : decode cX4_book 12 = .ok (.ireturn, 1) := by decide +kernel
theorem dX4_book_13 : decode cX4_book 13 = .ok (.aload_n 0, 1) := by decide +kernel
theorem dX4_book_14 : decode cX4_book 14 = .ok (.getfield 38, 3) := by decide +kernel
theorem dX4_book_17 : decode cX4_book 17 = .ok (.iload_n 1, 1) := by decide +kernel
theorem dX4_book_18 : decode cX4_book 18 = .ok (.aaload, 1) := by decide +kernel
theorem dX4_book_19 : decode cX4_book 19 = .ok (.astore_n 3, 1) := by decide +kernel
theorem dX4_book_20 : decode cX4_book 20 = .ok (.aload_n 3, 1) := by decide +kernel
theorem dX4_book_21 : decode cX4_book 21 = .ok (.invokevirtual 202, 3) := by decide +kernel
theorem dX4_book_24 : decode cX4_book 24 = .ok (.ifCond .eq 9, 3) := by decide +kernel
theorem dX4_book_27 : decode cX4_book 27 = .ok (.aload_n 0, 1) := by decide +kernel
theorem dX4_book_28 : decode cX4_book 28 = .ok (.iconst 5, 1) := by decide +kernel
theorem dX4_book_29 : decode cX4_book 29 = .ok (.invokevirtual 54, 3) := by decide +kernel
theorem dX4_book_32 : decode cX4_book 32 = .ok (.ireturn, 1) := by decide +kernel
theorem dX4_book_33 : decode cX4_book 33 = .ok (.aload_n 0, 1) := by decide +kernel
theorem dX4_book_34 : decode cX4_book 34 = .ok (.iload_n 2, 1) := by decide +kernel
theorem dX4_book_35 : decode cX4_book 35 = .ok (.invokevirtual 96, 3) := by decide +kernel
theorem dX4_book_38 : decode cX4_book 38 = .ok (.ifCond .ne 9, 3) := by decide +kernel
theorem dX4_book_41 : decode cX4_book 41 = .ok (.aload_n 0, 1) := by decide +kernel
theorem dX4_book_42 : decode cX4_book 42 = .ok (.iconst 0, 1) := by decide +kernel
theorem dX4_book_43 : decode cX4_book 43 = .ok (.invokevirtual 54, 3) := by decide +kernel
theorem dX4_book_46 : decode cX4_book 46 = .ok (.ireturn, 1) := by decide +kernel
theorem dX4_book_47 : decode cX4_book 47 = .ok (.aload_n 0, 1) := by decide +kernel
theorem dX4_book_48 : decode cX4_book 48 = .ok (.getfield 25, 3) := by decide +kernel
theorem dX4_book_51 : decode cX4_book 51 = .ok (.aload_n 0, 1) := by decide +kernel
theorem dX4_book_52 : decode cX4_book 52 = .ok (.getfield 10, 3) := by decide +kernel
theorem dX4_book_55 : decode cX4_book 55 = .ok (.getfield 99, 3) := by decide +kernel
theorem dX4_book_58 : decode cX4_book 58 = .ok (.iload_n 2, 1) := by decide +kernel
theorem dX4_book_59 : decode cX4_book 59 = .ok (.aaload, 1) := by decide +kernel
theorem dX4_book_60 : decode cX4_book 60 = .ok (.invokevirtual 166, 3) := by decide +kernel
theorem dX4_book_63 : decode cX4_book 63 = .ok (.iconst 0, 1) := by decide +kernel
theorem dX4_book_64 : decode cX4_book 64 = .ok (.istore 4, 2) := by decide +kernel
theorem dX4_book_66 : decode cX4_book 66 = .ok (.iload 4, 2) := by decide +kernel
theorem dX4_book_68 : decode cX4_book 68 = .ok (.aload_n 3, 1) := by decide +kernel
theorem dX4_book_69 : decode cX4_book 69 = .ok (.getfield 201, 3) := by decide +kernel
theorem dX4_book_72 : decode cX4_book 72 = .ok (.if_icmp .ge 30, 3) := by decide +kernel
theorem dX4_book_75 : decode cX4_book 75 = .ok (.aload_n 3, 1) := by decide +kernel
theorem dX4_book_76 : decode cX4_book 76 = .ok (.iload 4, 2) := by decide +kernel
theorem dX4_book_78 : decode cX4_book 78 = .ok (.aload_n 0, 1) := by decide +kernel
theorem dX4_book_79 : decode cX4_book 79 = .ok (.getfield 25, 3) := by decide +kernel
theorem dX4_book_82 : decode cX4_book 82 = .ok (.getfield 109, 3) := by decide +kernel
theorem dX4_book_85 : decode cX4_book 85 = .ok (.i2l, 1) := by decide +kernel
theorem dX4_book_86 : decode cX4_book 86 = .ok (.invokevirtual 209, 3) := by decide +kernel
theorem dX4_book_89 : decode cX4_book 89 = .ok (.aload_n 0, 1) := by decide +kernel
theorem dX4_book_90 : decode cX4_book 90 = .ok (.iload 4, 2) := by decide +kernel
theorem dX4_book_92 : decode cX4_book 92 = .ok (.iconst 1, 1) := by decide +kernel
theorem dX4_book_93 : decode cX4_book 93 = .ok (.invokevirtual 229, 3) := by decide +kernel
theorem dX4_book_96 : decode cX4_book 96 = .ok (.iinc 4 1, 3) := by decide +kernel
theorem dX4_book_99 : decode cX4_book 99 = .ok (.goto (-33), 3) := by decide +kernel
theorem dX4_book_102 : decode cX4_book 102 = .ok (.aload_n 3, 1) := by decide +kernel
theorem dX4_book_103 : decode cX4_book 103 = .ok (.getfield 201, 3) := by decide +kernel
theorem dX4_book_106 : decode cX4_book 106 = .ok (.ireturn, 1) := by decide +kernel
theorem dX4_read_0 : decode cX4_read 0 = .ok (.iload_n 1, 1) := by decide +kernel
theorem dX4_read_1 : decode cX4_read 1 = .ok (.invokestatic 195, 3) := by decide +kernel
theorem dX4_read_4 : decode cX4_read 4 = .ok (.ifCond .ne 9, 3) := by decide +kernel
theorem dX4_read_7 : decode cX4_read 7 = .ok (.aload_n 0, 1) := by decide +kernel
theorem dX4_read_8 : decode cX4_read 8 = .ok (.iconst 0, 1) := by decide +kernel
theorem dX4_read_9 : decode cX4_read 9 = .ok (.invokevirtual 54, 3) := by decide +kernel
theorem dX4_read_12 : decode cX4_read 12 = .ok (.ireturn, 1) := by decide +kernel
theorem dX4_read_13 : decode cX4_read 13 = .ok (.aload_n 0, 1) := by decide +kernel
theorem dX4_read_14 : decode cX4_read 14 = .ok (.getfield 38, 3) := by decide +kernel
theorem dX4_read_17 : decode cX4_read 17 = .ok (.iload_n 1, 1) := by decide +kernel
theorem dX4_read_18 : decode cX4_read 18 = .ok (.aaload, 1) := by decide +kernel
theorem dX4_read_19 : decode cX4_read 19 = .ok (.astore_n 3, 1) := by decide +kernel
theorem dX4_read_20 : decode cX4_read 20 = .ok (.aload_n 3, 1) := by decide +kernel
theorem dX4_read_21 : decode cX4_read 21 = .ok (.invokevirtual 202, 3) := by decide +kernel
theorem dX4_read_24 : decode cX4_read 24 = .ok (.ifCond .eq 9, 3) := by decide +kernel
theorem dX4_read_27 : decode cX4_read 27 = .ok (.aload_n 0, 1) := by decide +kernel
theorem dX4_read_28 : decode cX4_read 28 = .ok (.iconst 5, 1) := by decide +kernel
theorem dX4_read_29 : decode cX4_read 29 = .ok (.invokevirtual 54, 3) := by decide +kernel
theorem dX4_read_32 : decode cX4_read 32 = .ok (.ireturn, 1) := by decide +kernel
theorem dX4_read_33 : decode cX4_read 33 = .ok (.aload_n 0, 1) := by decide +kernel
theorem dX4_read_34 : decode cX4_read 34 = .ok (.iload_n 2, 1) := by decide +kernel
theorem dX4_read_35 : decode cX4_read 35 = .ok (.invokevirtual 96, 3) := by decide +kernel
theorem dX4_read_38 : decode cX4_read 38 = .ok (.ifCond .ne 9, 3) := by decide +kernel
theorem dX4_read_41 : decode cX4_read 41 = .ok (.aload_n 0, 1) := by decide +kernel
theorem dX4_read_42 : decode cX4_read 42 = .ok (.iconst 0, 1) := by decide +kernel
theorem dX4_read_43 : decode cX4_read 43 = .ok (.invokevirtual 54, 3) := by decide +kernel
theorem dX4_read_46 : decode cX4_read 46 = .ok (.ireturn, 1) := by decide +kernel
theorem dX4_read_47 : decode cX4_read 47 = .ok (.iconst 0, 1) := by decide +kernel
theorem dX4_read_48 : decode cX4_read 48 = .ok (.istore 4, 2) := by decide +kernel
theorem dX4_read_50 : decode cX4_read 50 = .ok (.iconst 0, 1) := by decide +kernel
theorem dX4_read_51 : decode cX4_read 51 = .ok (.istore 5, 2) := by decide +kernel
theorem dX4_read_53 : decode cX4_read 53 = .ok (.iload 5, 2) := by decide +kernel
theorem dX4_read_55 : decode cX4_read 55 = .ok (.bipush 6, 2) := by decide +kernel
theorem dX4_read_57 : decode cX4_read 57 = .ok (.if_icmp .ge 70, 3) := by decide +kernel
theorem dX4_read_60 : decode cX4_read 60 = .ok (.iconst 0, 1) := by decide +kernel
theorem dX4_read_61 : decode cX4_read 61 = .ok (.istore 6, 2) := by decide +kernel
theorem dX4_read_63 : decode cX4_read 63 = .ok (.iload 6, 2) := by decide +kernel
theorem dX4_read_65 : decode cX4_read 65 = .ok (.bipush 99, 2) := by decide +kernel
theorem dX4_read_67 : decode cX4_read 67 = .ok (.if_icmp .gt 54, 3) := by decide +kernel
theorem dX4_read_70 : decode cX4_read 70 = .ok (.aload_n 0, 1) := by decide +kernel
theorem dX4_read_71 : decode cX4_read 71 = .ok (.getfield 25, 3) := by decide +kernel
theorem dX4_read_74 : decode cX4_read 74 = .ok (.aload_n 0, 1) := by decide +kernel
theorem dX4_read_75 : decode cX4_read 75 = .ok (.getfield 10, 3) := by decide +kernel
theorem dX4_read_78 : decode cX4_read 78 = .ok (.getfield 99, 3) := by decide +kernel
theorem dX4_read_81 : decode cX4_read 81 = .ok (.iload_n 2, 1) := by decide +kernel
theorem dX4_read_82 : decode cX4_read 82 = .ok (.aaload, 1) := by decide +kernel
theorem dX4_read_83 : decode cX4_read 83 = .ok (.invokevirtual 166, 3) := by decide +kernel
theorem dX4_read_86 : decode cX4_read 86 = .ok (.aload_n 0, 1) := by decide +kernel
theorem dX4_read_87 : decode cX4_read 87 = .ok (.getfield 25, 3) := by decide +kernel
theorem dX4_read_90 : decode cX4_read 90 = .ok (.iload 5, 2) := by decide +kernel
theorem dX4_read_92 : decode cX4_read 92 = .ok (.putfield 103, 3) := by decide +kernel
theorem dX4_read_95 : decode cX4_read 95 = .ok (.aload_n 0, 1) := by decide +kernel
theorem dX4_read_96 : decode cX4_read 96 = .ok (.getfield 25, 3) := by decide +kernel
theorem dX4_read_99 : decode cX4_read 99 = .ok (.iload 6, 2) := by decide +kernel
theorem dX4_read_101 : decode cX4_read 101 = .ok (.putfield 106, 3) := by decide +kernel
theorem dX4_read_104 : decode cX4_read 104 = .ok (.aload_n 0, 1) := by decide +kernel
theorem dX4_read_105 : decode cX4_read 105 = .ok (.aload_n 3, 1) := by decide +kernel
theorem dX4_read_106 : decode cX4_read 106 = .ok (.invokevirtual 232, 3) := by decide +kernel
theorem dX4_read_109 : decode cX4_read 109 = .ok (.ifCond .eq 6, 3) := by decide +kernel
theorem dX4_read_112 : decode cX4_read 112 = .ok (.iinc 4 1, 3) := by decide +kernel
theorem dX4_read_115 : decode cX4_read 115 = .ok (.iinc 6 1, 3) := by decide +kernel
theorem dX4_read_118 : decode cX4_read 118 = .ok (.goto (-55), 3) := by decide +kernel
theorem dX4_read_121 : decode cX4_read 121 = .ok (.iinc 5 1, 3) := by decide +kernel
theorem dX4_read_124 : decode cX4_read 124 = .ok (.goto (-71), 3) := by decide +kernel
theorem dX4_read_127 : decode cX4_read 127 = .ok (.iload 4, 2) := by decide +kernel
theorem dX4_read_129 : decode cX4_read 129 = .ok (.ireturn, 1) := by decide +kernel
theorem dX4_image_0 : decode cX4_image 0 = .ok (.aload_n 0, 1) := by decide +kernel
theorem dX4_image_1 : decode cX4_image 1 = .ok (.getfield 16, 3) := by decide +kernel
theorem dX4_image_4 : decode cX4_image 4 = .ok (.aload_n 0, 1) := by decide +kernel
theorem dX4_image_5 : decode cX4_image 5 = .ok (.getfield 10, 3) := by decide +kernel
theorem dX4_image_8 : decode cX4_image 8 = .ok (.invokevirtual 173, 3) := by decide +kernel
theorem dX4_image_11 : decode cX4_image 11 = .ok (.aload_n 0, 1) := by decide +kernel
theorem dX4_image_12 : decode cX4_image 12 = .ok (.iconst 1, 1) := by decide +kernel
theorem dX4_image_13 : decode cX4_image 13 = .ok (.putfield 236, 3) := by decide +kernel
theorem dX4_image_16 : decode cX4_image 16 = .ok (.iconst 1, 1) := by decide +kernel
theorem dX4_image_17 : decode cX4_image 17 = .ok (.ireturn, 1) := by decide +kernel
theorem dX4_undo_0 : decode cX4_undo 0 = .ok (.aload_n 0, 1) := by decide +kernel
theorem dX4_undo_1 : decode cX4_undo 1 = .ok (.getfield 236, 3) := by decide +kernel
theorem dX4_undo_4 : decode cX4_undo 4 = .ok (.ifCond .ne 9, 3) := by decide +kernel
theorem dX4_undo_7 : decode cX4_undo 7 = .ok (.aload_n 0, 1) := by decide +kernel
theorem dX4_undo_8 : decode cX4_undo 8 = .ok (.iconst 3, 1) := by decide +kernel
theorem dX4_undo_9 : decode cX4_undo 9 = .ok (.invokevirtual 54, 3) := by decide +kernel
theorem dX4_undo_12 : decode cX4_undo 12 = .ok (.ireturn, 1) := by decide +kernel
theorem dX4_undo_13 : decode cX4_undo 13 = .ok (.aload_n 0, 1) := by decide +kernel
theorem dX4_undo_14 : decode cX4_undo 14 = .ok (.getfield 10, 3) := by decide +kernel
theorem dX4_undo_17 : decode cX4_undo 17 = .ok (.aload_n 0, 1) := by decide +kernel
theorem dX4_undo_18 : decode cX4_undo 18 = .ok (.getfield 16, 3) := by decide +kernel
theorem dX4_undo_21 : decode cX4_undo 21 = .ok (.invokevirtual 173, 3) := by decide +kernel
theorem dX4_undo_24 : decode cX4_undo 24 = .ok (.aload_n 0, 1) := by decide +kernel
theorem dX4_undo_25 : decode cX4_undo 25 = .ok (.getfield 10, 3) := by decide +kernel
theorem dX4_undo_28 : decode cX4_undo 28 = .ok (.getfield 93, 3) := by decide +kernel
theorem dX4_undo_31 : decode cX4_undo 31 = .ok (.ireturn, 1) := by decide +kernel
theorem dX4_tear_0 : decode cX4_tear 0 = .ok (.aload_n 0, 1) := by decide +kernel
theorem dX4_tear_1 : decode cX4_tear 1 = .ok (.getfield 236, 3) := by decide +kernel
theorem dX4_tear_4 : decode cX4_tear 4 = .ok (.ifCond .eq 7, 3) := by decide +kernel
theorem dX4_tear_7 : decode cX4_tear 7 = .ok (.iconst 1, 1) := by decide +kernel
theorem dX4_tear_8 : decode cX4_tear 8 = .ok (.goto 4, 3) := by decide +kernel
theorem dX4_tear_11 : decode cX4_tear 11 = .ok (.iconst 0, 1) := by decide +kernel
theorem dX4_tear_12 : decode cX4_tear 12 = .ok (.istore_n 1, 1) := by decide +kernel
theorem dX4_tear_13 : decode cX4_tear 13 = .ok (.aload_n 0, 1) := by decide +kernel
theorem dX4_tear_14 : decode cX4_tear 14 = .ok (.iconst 0, 1) := by decide +kernel
theorem dX4_tear_15 : decode cX4_tear 15 = .ok (.putfield 236, 3) := by decide +kernel
theorem dX4_tear_18 : decode cX4_tear 18 = .ok (.iload_n 1, 1) := by decide +kernel
theorem dX4_tear_19 : decode cX4_tear 19 = .ok (.ireturn, 1) := by decide +kernel
theorem dX4_count_0 : decode cX4_count 0 = .ok (.iload_n 1, 1) := by decide +kernel
theorem dX4_count_1 : decode cX4_count 1 = .ok (.tableswitch 63 0 3 #[31, 39, 47, 55], 31) := by decide +kernel
theorem dX4_count_32 : decode cX4_count 32 = .ok (.aload_n 0, 1) := by decide +kernel
theorem dX4_count_33 : decode cX4_count 33 = .ok (.getfield 10, 3) := by decide +kernel
theorem dX4_count_36 : decode cX4_count 36 = .ok (.getfield 93, 3) := by decide +kernel
theorem dX4_count_39 : decode cX4_count 39 = .ok (.ireturn, 1) := by decide +kernel
theorem dX4_count_40 : decode cX4_count 40 = .ok (.aload_n 0, 1) := by decide +kernel
theorem dX4_count_41 : decode cX4_count 41 = .ok (.getfield 32, 3) := by decide +kernel
theorem dX4_count_44 : decode cX4_count 44 = .ok (.getfield 187, 3) := by decide +kernel
theorem dX4_count_47 : decode cX4_count 47 = .ok (.ireturn, 1) := by decide +kernel
theorem dX4_count_48 : decode cX4_count 48 = .ok (.aload_n 0, 1) := by decide +kernel
theorem dX4_count_49 : decode cX4_count 49 = .ok (.getfield 10, 3) := by decide +kernel
theorem dX4_count_52 : decode cX4_count 52 = .ok (.invokevirtual 240, 3) := by decide +kernel
theorem dX4_count_55 : decode cX4_count 55 = .ok (.ireturn, 1) := by decide +kernel
theorem dX4_count_56 : decode cX4_count 56 = .ok (.aload_n 0, 1) := by decide +kernel
theorem dX4_count_57 : decode cX4_count 57 = .ok (.getfield 10, 3) := by decide +kernel
theorem dX4_count_60 : decode cX4_count 60 = .ok (.invokevirtual 243, 3) := by decide +kernel
theorem dX4_count_63 : decode cX4_count 63 = .ok (.ireturn, 1) := by decide +kernel
theorem dX4_count_64 : decode cX4_count 64 = .ok (.aload_n 0, 1) := by decide +kernel
theorem dX4_count_65 : decode cX4_count 65 = .ok (.iconst 0, 1) := by decide +kernel
theorem dX4_count_66 : decode cX4_count 66 = .ok (.invokevirtual 54, 3) := by decide +kernel
theorem dX4_count_69 : decode cX4_count 69 = .ok (.ireturn, 1) := by decide +kernel
theorem dX4_status_0 : decode cX4_status 0 = .ok (.iload_n 1, 1) := by decide +kernel
theorem dX4_status_1 : decode cX4_status 1 = .ok (.iconst (-1), 1) := by decide +kernel
theorem dX4_status_2 : decode cX4_status 2 = .ok (.if_icmp .ne 11, 3) := by decide +kernel
theorem dX4_status_5 : decode cX4_status 5 = .ok (.aload_n 0, 1) := by decide +kernel
theorem dX4_status_6 : decode cX4_status 6 = .ok (.getfield 42, 3) := by decide +kernel
theorem dX4_status_9 : decode cX4_status 9 = .ok (.invokestatic 75, 3) := by decide +kernel
theorem dX4_status_12 : decode cX4_status 12 = .ok (.ireturn, 1) := by decide +kernel
theorem dX4_status_13 : decode cX4_status 13 = .ok (.iload_n 1, 1) := by decide +kernel
theorem dX4_status_14 : decode cX4_status 14 = .ok (.iconst 0, 1) := by decide +kernel
theorem dX4_status_15 : decode cX4_status 15 = .ok (.bipush 6, 2) := by decide +kernel
theorem dX4_status_17 : decode cX4_status 17 = .ok (.invokestatic 128, 3) := by decide +kernel
theorem dX4_status_20 : decode cX4_status 20 = .ok (.ifCond .ne 9, 3) := by decide +kernel
theorem dX4_status_23 : decode cX4_status 23 = .ok (.aload_n 0, 1) := by decide +kernel
theorem dX4_status_24 : decode cX4_status 24 = .ok (.iconst 0, 1) := by decide +kernel
theorem dX4_status_25 : decode cX4_status 25 = .ok (.invokevirtual 54, 3) := by decide +kernel
theorem dX4_status_28 : decode cX4_status 28 = .ok (.ireturn, 1) := by decide +kernel
theorem dX4_status_29 : decode cX4_status 29 = .ok (.aload_n 0, 1) := by decide +kernel
theorem dX4_status_30 : decode cX4_status 30 = .ok (.getfield 42, 3) := by decide +kernel
theorem dX4_status_33 : decode cX4_status 33 = .ok (.iload_n 1, 1) := by decide +kernel
theorem dX4_status_34 : decode cX4_status 34 = .ok (.iaload, 1) := by decide +kernel
theorem dX4_status_35 : decode cX4_status 35 = .ok (.ireturn, 1) := by decide +kernel
theorem dX4_found_0 : decode cX4_found 0 = .ok (.aload_n 0, 1) := by decide +kernel
theorem dX4_found_1 : decode cX4_found 1 = .ok (.getfield 42, 3) := by decide +kernel
theorem dX4_found_4 : decode cX4_found 4 = .ok (.iload_n 1, 1) := by decide +kernel
theorem dX4_found_5 : decode cX4_found 5 = .ok (.dup2, 1) := by decide +kernel
theorem dX4_found_6 : decode cX4_found 6 = .ok (.iaload, 1) := by decide +kernel
theorem dX4_found_7 : decode cX4_found 7 = .ok (.iconst 1, 1) := by decide +kernel
theorem dX4_found_8 : decode cX4_found 8 = .ok (.iadd, 1) := by decide +kernel
theorem dX4_found_9 : decode cX4_found 9 = .ok (.iastore, 1) := by decide +kernel
theorem dX4_found_10 : decode cX4_found 10 = .ok (.ldc 246, 2) := by decide +kernel
theorem dX4_found_12 : decode cX4_found 12 = .ok (.iload_n 1, 1) := by decide +kernel
theorem dX4_found_13 : decode cX4_found 13 = .ok (.isub, 1) := by decide +kernel
theorem dX4_found_14 : decode cX4_found 14 = .ok (.ireturn, 1) := by decide +kernel
theorem dX4_isWithin_0 : decode cX4_isWithin 0 = .ok (.iload_n 0, 1) := by decide +kernel
theorem dX4_isWithin_1 : decode cX4_isWithin 1 = .ok (.iload_n 1, 1) := by decide +kernel
theorem dX4_isWithin_2 : decode cX4_isWithin 2 = .ok (.if_icmp .lt 12, 3) := by decide +kernel
theorem dX4_isWithin_5 : decode cX4_isWithin 5 = .ok (.iload_n 0, 1) := by decide +kernel
theorem dX4_isWithin_6 : decode cX4_isWithin 6 = .ok (.iload_n 2, 1) := by decide +kernel
theorem dX4_isWithin_7 : decode cX4_isWithin 7 = .ok (.if_icmp .gt 7, 3) := by decide +kernel
theorem dX4_isWithin_10 : decode cX4_isWithin 10 = .ok (.iconst 1, 1) := by decide +kernel
theorem dX4_isWithin_11 : decode cX4_isWithin 11 = .ok (.goto 4, 3) := by decide +kernel
theorem dX4_isWithin_14 : decode cX4_isWithin 14 = .ok (.iconst 0, 1) := by decide +kernel
theorem dX4_isWithin_15 : decode cX4_isWithin 15 = .ok (.ireturn, 1) := by decide +kernel
theorem dX4_isMonth_0 : decode cX4_isMonth 0 = .ok (.iload_n 0, 1) := by decide +kernel
theorem dX4_isMonth_1 : decode cX4_isMonth 1 = .ok (.iconst 0, 1) := by decide +kernel
theorem dX4_isMonth_2 : decode cX4_isMonth 2 = .ok (.bipush 11, 2) := by decide +kernel
theorem dX4_isMonth_4 : decode cX4_isMonth 4 = .ok (.invokestatic 128, 3) := by decide +kernel
theorem dX4_isMonth_7 : decode cX4_isMonth 7 = .ok (.ireturn, 1) := by decide +kernel
theorem dX4_isWeather_0 : decode cX4_isWeather 0 = .ok (.iload_n 0, 1) := by decide +kernel
theorem dX4_isWeather_1 : decode cX4_isWeather 1 = .ok (.bipush (-20), 2) := by decide +kernel
theorem dX4_isWeather_3 : decode cX4_isWeather 3 = .ok (.bipush 20, 2) := by decide +kernel
theorem dX4_isWeather_5 : decode cX4_isWeather 5 = .ok (.invokestatic 128, 3) := by decide +kernel
theorem dX4_isWeather_8 : decode cX4_isWeather 8 = .ok (.ireturn, 1) := by decide +kernel
theorem dX4_isKind_0 : decode cX4_isKind 0 = .ok (.iload_n 0, 1) := by decide +kernel
theorem dX4_isKind_1 : decode cX4_isKind 1 = .ok (.iconst 0, 1) := by decide +kernel
theorem dX4_isKind_2 : decode cX4_isKind 2 = .ok (.iconst 5, 1) := by decide +kernel
theorem dX4_isKind_3 : decode cX4_isKind 3 = .ok (.invokestatic 128, 3) := by decide +kernel
theorem dX4_isKind_6 : decode cX4_isKind 6 = .ok (.ireturn, 1) := by decide +kernel
theorem dX4_isCoat_0 : decode cX4_isCoat 0 = .ok (.iload_n 0, 1) := by decide +kernel
theorem dX4_isCoat_1 : decode cX4_isCoat 1 = .ok (.iconst 0, 1) := by decide +kernel
theorem dX4_isCoat_2 : decode cX4_isCoat 2 = .ok (.iconst 3, 1) := by decide +kernel
theorem dX4_isCoat_3 : decode cX4_isCoat 3 = .ok (.invokestatic 128, 3) := by decide +kernel
theorem dX4_isCoat_6 : decode cX4_isCoat 6 = .ok (.ireturn, 1) := by decide +kernel
theorem dX4_isSheet_0 : decode cX4_isSheet 0 = .ok (.iload_n 0, 1) := by decide +kernel
theorem dX4_isSheet_1 : decode cX4_isSheet 1 = .ok (.iconst 0, 1) := by decide +kernel
theorem dX4_isSheet_2 : decode cX4_isSheet 2 = .ok (.iconst 3, 1) := by decide +kernel
theorem dX4_isSheet_3 : decode cX4_isSheet 3 = .ok (.invokestatic 128, 3) := by decide +kernel
theorem dX4_isSheet_6 : decode cX4_isSheet 6 = .ok (.ireturn, 1) := by decide +kernel
theorem dX4_isEwe_0 : decode cX4_isEwe 0 = .ok (.iload_n 1, 1) := by decide +kernel
theorem dX4_isEwe_1 : decode cX4_isEwe 1 = .ok (.iconst 0, 1) := by decide +kernel
theorem dX4_isEwe_2 : decode cX4_isEwe 2 = .ok (.aload_n 0, 1) := by decide +kernel
theorem dX4_isEwe_3 : decode cX4_isEwe 3 = .ok (.getfield 10, 3) := by decide +kernel
theorem dX4_isEwe_6 : decode cX4_isEwe 6 = .ok (.getfield 93, 3) := by decide +kernel
theorem dX4_isEwe_9 : decode cX4_isEwe 9 = .ok (.iconst 1, 1) := by decide +kernel
theorem dX4_isEwe_10 : decode cX4_isEwe 10 = .ok (.isub, 1) := by decide +kernel
theorem dX4_isEwe_11 : decode cX4_isEwe 11 = .ok (.invokestatic 128, 3) := by decide +kernel
theorem dX4_isEwe_14 : decode cX4_isEwe 14 = .ok (.ireturn, 1) := by decide +kernel
theorem dX4_sum_0 : decode cX4_sum 0 = .ok (.iconst 0, 1) := by decide +kernel
theorem dX4_sum_1 : decode cX4_sum 1 = .ok (.istore_n 1, 1) := by decide +kernel
theorem dX4_sum_2 : decode cX4_sum 2 = .ok (.aload_n 0, 1) := by decide +kernel
theorem dX4_sum_3 : decode cX4_sum 3 = .ok (.astore_n 2, 1) := by decide +kernel
theorem dX4_sum_4 : decode cX4_sum 4 = .ok (.aload_n 2, 1) := by decide +kernel
theorem dX4_sum_5 : decode cX4_sum 5 = .ok (.arraylength, 1) := by decide +kernel
theorem dX4_sum_6 : decode cX4_sum 6 = .ok (.istore_n 3, 1) := by decide +kernel
theorem dX4_sum_7 : decode cX4_sum 7 = .ok (.iconst 0, 1) := by decide +kernel
theorem dX4_sum_8 : decode cX4_sum 8 = .ok (.istore 4, 2) := by decide +kernel
theorem dX4_sum_10 : decode cX4_sum 10 = .ok (.iload 4, 2) := by decide +kernel
theorem dX4_sum_12 : decode cX4_sum 12 = .ok (.iload_n 3, 1) := by decide +kernel
theorem dX4_sum_13 : decode cX4_sum 13 = .ok (.if_icmp .ge 20, 3) := by decide +kernel
theorem dX4_sum_16 : decode cX4_sum 16 = .ok (.aload_n 2, 1) := by decide +kernel
theorem dX4_sum_17 : decode cX4_sum 17 = .ok (.iload 4, 2) := by decide +kernel
theorem dX4_sum_19 : decode cX4_sum 19 = .ok (.iaload, 1) := by decide +kernel
theorem dX4_sum_20 : decode cX4_sum 20 = .ok (.istore 5, 2) := by decide +kernel
theorem dX4_sum_22 : decode cX4_sum 22 = .ok (.iload_n 1, 1) := by decide +kernel
theorem dX4_sum_23 : decode cX4_sum 23 = .ok (.iload 5, 2) := by decide +kernel
theorem dX4_sum_25 : decode cX4_sum 25 = .ok (.iadd, 1) := by decide +kernel
theorem dX4_sum_26 : decode cX4_sum 26 = .ok (.istore_n 1, 1) := by decide +kernel
theorem dX4_sum_27 : decode cX4_sum 27 = .ok (.iinc 4 1, 3) := by decide +kernel
theorem dX4_sum_30 : decode cX4_sum 30 = .ok (.goto (-20), 3) := by decide +kernel
theorem dX4_sum_33 : decode cX4_sum 33 = .ok (.iload_n 1, 1) := by decide +kernel
theorem dX4_sum_34 : decode cX4_sum 34 = .ok (.ireturn, 1) := by decide +kernel
theorem dX4_passAlone_0 : decode cX4_passAlone 0 = .ok (.aload_n 0, 1) := by decide +kernel
theorem dX4_passAlone_1 : decode cX4_passAlone 1 = .ok (.iconst 0, 1) := by decide +kernel
theorem dX4_passAlone_2 : decode cX4_passAlone 2 = .ok (.iload_n 1, 1) := by decide +kernel
theorem dX4_passAlone_3 : decode cX4_passAlone 3 = .ok (.invokevirtual 229, 3) := by decide +kernel
theorem dX4_passAlone_6 : decode cX4_passAlone 6 = .ok (.return_, 1) := by decide +kernel
theorem dX4_passAloneFrom_0 : decode cX4_passAloneFrom 0 = .ok (.aload_n 0, 1) := by decide +kernel
theorem dX4_passAloneFrom_1 : decode cX4_passAloneFrom 1 = .ok (.getfield 10, 3) := by decide +kernel
theorem dX4_passAloneFrom_4 : decode cX4_passAloneFrom 4 = .ok (.getfield 67, 3) := by decide +kernel
theorem dX4_passAloneFrom_7 : decode cX4_passAloneFrom 7 = .ok (.iload_n 1, 1) := by decide +kernel
theorem dX4_passAloneFrom_8 : decode cX4_passAloneFrom 8 = .ok (.iadd, 1) := by decide +kernel
theorem dX4_passAloneFrom_9 : decode cX4_passAloneFrom 9 = .ok (.istore_n 3, 1) := by decide +kernel
theorem dX4_passAloneFrom_10 : decode cX4_passAloneFrom 10 = .ok (.iconst 0, 1) := by decide +kernel
theorem dX4_passAloneFrom_11 : decode cX4_passAloneFrom 11 = .ok (.istore 4, 2) := by decide +kernel
theorem dX4_passAloneFrom_13 : decode cX4_passAloneFrom 13 = .ok (.iload 4, 2) := by decide +kernel
theorem dX4_passAloneFrom_15 : decode cX4_passAloneFrom 15 = .ok (.iload_n 2, 1) := by decide +kernel
theorem dX4_passAloneFrom_16 : decode cX4_passAloneFrom 16 = .ok (.if_icmp .ge 50, 3) := by decide +kernel
theorem dX4_passAloneFrom_19 : decode cX4_passAloneFrom 19 = .ok (.iload_n 3, 1) := by decide +kernel
theorem dX4_passAloneFrom_20 : decode cX4_passAloneFrom 20 = .ok (.iload 4, 2) := by decide +kernel
theorem dX4_passAloneFrom_22 : decode cX4_passAloneFrom 22 = .ok (.iadd, 1) := by decide +kernel
theorem dX4_passAloneFrom_23 : decode cX4_passAloneFrom 23 = .ok (.bipush 12, 2) := by decide +kernel
theorem dX4_passAloneFrom_25 : decode cX4_passAloneFrom 25 = .ok (.irem, 1) := by decide +kernel
theorem dX4_passAloneFrom_26 : decode cX4_passAloneFrom 26 = .ok (.istore 5, 2) := by decide +kernel
theorem dX4_passAloneFrom_28 : decode cX4_passAloneFrom 28 = .ok (.aload_n 0, 1) := by decide +kernel
theorem dX4_passAloneFrom_29 : decode cX4_passAloneFrom 29 = .ok (.getfield 25, 3) := by decide +kernel
theorem dX4_passAloneFrom_32 : decode cX4_passAloneFrom 32 = .ok (.iload 5, 2) := by decide +kernel
theorem dX4_passAloneFrom_34 : decode cX4_passAloneFrom 34 = .ok (.aload_n 0, 1) := by decide +kernel
theorem dX4_passAloneFrom_35 : decode cX4_passAloneFrom 35 = .ok (.getfield 10, 3) := by decide +kernel
theorem dX4_passAloneFrom_38 : decode cX4_passAloneFrom 38 = .ok (.getfield 58, 3) := by decide +kernel
theorem dX4_passAloneFrom_41 : decode cX4_passAloneFrom 41 = .ok (.iload 5, 2) := by decide +kernel
theorem dX4_passAloneFrom_43 : decode cX4_passAloneFrom 43 = .ok (.iaload, 1) := by decide +kernel
theorem dX4_passAloneFrom_44 : decode cX4_passAloneFrom 44 = .ok (.invokevirtual 247, 3) := by decide +kernel
theorem dX4_passAloneFrom_47 : decode cX4_passAloneFrom 47 = .ok (.iload 5, 2) := by decide +kernel
theorem dX4_passAloneFrom_49 : decode cX4_passAloneFrom 49 = .ok (.iconst 5, 1) := by decide +kernel
theorem dX4_passAloneFrom_50 : decode cX4_passAloneFrom 50 = .ok (.if_icmp .ne 10, 3) := by decide +kernel
theorem dX4_passAloneFrom_53 : decode cX4_passAloneFrom 53 = .ok (.aload_n 0, 1) := by decide +kernel
theorem dX4_passAloneFrom_54 : decode cX4_passAloneFrom 54 = .ok (.getfield 25, 3) := by decide +kernel
theorem dX4_passAloneFrom_57 : decode cX4_passAloneFrom 57 = .ok (.invokevirtual 250, 3) := by decide +kernel
theorem dX4_passAloneFrom_60 : decode cX4_passAloneFrom 60 = .ok (.iinc 4 1, 3) := by decide +kernel
theorem dX4_passAloneFrom_63 : decode cX4_passAloneFrom 63 = .ok (.goto (-50), 3) := by decide +kernel
theorem dX4_passAloneFrom_66 : decode cX4_passAloneFrom 66 = .ok (.return_, 1) := by decide +kernel
theorem dX4_growsAsTold_0 : decode cX4_growsAsTold 0 = .ok (.iconst 0, 1) := by decide +kernel
theorem dX4_growsAsTold_1 : decode cX4_growsAsTold 1 = .ok (.istore_n 2, 1) := by decide +kernel
theorem dX4_growsAsTold_2 : decode cX4_growsAsTold 2 = .ok (.iload_n 2, 1) := by decide +kernel
theorem dX4_growsAsTold_3 : decode cX4_growsAsTold 3 = .ok (.aload_n 1, 1) := by decide +kernel
theorem dX4_growsAsTold_4 : decode cX4_growsAsTold 4 = .ok (.getfield 201, 3) := by decide +kernel
theorem dX4_growsAsTold_7 : decode cX4_growsAsTold 7 = .ok (.if_icmp .ge 35, 3) := by decide +kernel
theorem dX4_growsAsTold_10 : decode cX4_growsAsTold 10 = .ok (.aload_n 1, 1) := by decide +kernel
theorem dX4_growsAsTold_11 : decode cX4_growsAsTold 11 = .ok (.getfield 205, 3) := by decide +kernel
theorem dX4_growsAsTold_14 : decode cX4_growsAsTold 14 = .ok (.iload_n 2, 1) := by decide +kernel
theorem dX4_growsAsTold_15 : decode cX4_growsAsTold 15 = .ok (.laload, 1) := by decide +kernel
theorem dX4_growsAsTold_16 : decode cX4_growsAsTold 16 = .ok (.aload_n 0, 1) := by decide +kernel
theorem dX4_growsAsTold_17 : decode cX4_growsAsTold 17 = .ok (.getfield 25, 3) := by decide +kernel
theorem dX4_growsAsTold_20 : decode cX4_growsAsTold 20 = .ok (.getfield 109, 3) := by decide +kernel
theorem dX4_growsAsTold_23 : decode cX4_growsAsTold 23 = .ok (.i2l, 1) := by decide +kernel
theorem dX4_growsAsTold_24 : decode cX4_growsAsTold 24 = .ok (.lcmp, 1) := by decide +kernel
theorem dX4_growsAsTold_25 : decode cX4_growsAsTold 25 = .ok (.ifCond .eq 5, 3) := by decide +kernel
theorem dX4_growsAsTold_28 : decode cX4_growsAsTold 28 = .ok (.iconst 0, 1) := by decide +kernel
theorem dX4_growsAsTold_29 : decode cX4_growsAsTold 29 = .ok (.ireturn, 1) := by decide +kernel
theorem dX4_growsAsTold_30 : decode cX4_growsAsTold 30 = .ok (.aload_n 0, 1) := by decide +kernel
theorem dX4_growsAsTold_31 : decode cX4_growsAsTold 31 = .ok (.iload_n 2, 1) := by decide +kernel
theorem dX4_growsAsTold_32 : decode cX4_growsAsTold 32 = .ok (.iconst 1, 1) := by decide +kernel
theorem dX4_growsAsTold_33 : decode cX4_growsAsTold 33 = .ok (.invokevirtual 229, 3) := by decide +kernel
theorem dX4_growsAsTold_36 : decode cX4_growsAsTold 36 = .ok (.iinc 2 1, 3) := by decide +kernel
theorem dX4_growsAsTold_39 : decode cX4_growsAsTold 39 = .ok (.goto (-37), 3) := by decide +kernel
theorem dX4_growsAsTold_42 : decode cX4_growsAsTold 42 = .ok (.iconst 1, 1) := by decide +kernel
theorem dX4_growsAsTold_43 : decode cX4_growsAsTold 43 = .ok (.ireturn, 1) := by decide +kernel
theorem dX4_kindAbove_0 : decode cX4_kindAbove 0 = .ok (.iload_n 0, 1) := by decide +kernel
theorem dX4_kindAbove_1 : decode cX4_kindAbove 1 = .ok (.tableswitch 41 1 5 #[35, 35, 35, 37, 39], 35) := by decide +kernel
theorem dX4_kindAbove_36 : decode cX4_kindAbove 36 = .ok (.iconst 0, 1) := by decide +kernel
theorem dX4_kindAbove_37 : decode cX4_kindAbove 37 = .ok (.ireturn, 1) := by decide +kernel
theorem dX4_kindAbove_38 : decode cX4_kindAbove 38 = .ok (.iconst 1, 1) := by decide +kernel
theorem dX4_kindAbove_39 : decode cX4_kindAbove 39 = .ok (.ireturn, 1) := by decide +kernel
theorem dX4_kindAbove_40 : decode cX4_kindAbove 40 = .ok (.iconst 2, 1) := by decide +kernel
theorem dX4_kindAbove_41 : decode cX4_kindAbove 41 = .ok (.ireturn, 1) := by decide +kernel
theorem dX4_kindAbove_42 : decode cX4_kindAbove 42 = .ok (.iconst (-1), 1) := by decide +kernel
theorem dX4_kindAbove_43 : decode cX4_kindAbove 43 = .ok (.ireturn, 1) := by decide +kernel
theorem dX4_isOfKind_0 : decode cX4_isOfKind 0 = .ok (.iload_n 0, 1) := by decide +kernel
theorem dX4_isOfKind_1 : decode cX4_isOfKind 1 = .ok (.istore_n 2, 1) := by decide +kernel
theorem dX4_isOfKind_2 : decode cX4_isOfKind 2 = .ok (.iconst 0, 1) := by decide +kernel
theorem dX4_isOfKind_3 : decode cX4_isOfKind 3 = .ok (.istore_n 3, 1) := by decide +kernel
theorem dX4_isOfKind_4 : decode cX4_isOfKind 4 = .ok (.iload_n 3, 1) := by decide +kernel
theorem dX4_isOfKind_5 : decode cX4_isOfKind 5 = .ok (.bipush 6, 2) := by decide +kernel
theorem dX4_isOfKind_7 : decode cX4_isOfKind 7 = .ok (.if_icmp .ge 25, 3) := by decide +kernel
theorem dX4_isOfKind_10 : decode cX4_isOfKind 10 = .ok (.iload_n 2, 1) := by decide +kernel
theorem dX4_isOfKind_11 : decode cX4_isOfKind 11 = .ok (.ifCond .lt 21, 3) := by decide +kernel
theorem dX4_isOfKind_14 : decode cX4_isOfKind 14 = .ok (.iload_n 2, 1) := by decide +kernel
theorem dX4_isOfKind_15 : decode cX4_isOfKind 15 = .ok (.iload_n 1, 1) := by decide +kernel
theorem dX4_isOfKind_16 : decode cX4_isOfKind 16 = .ok (.if_icmp .ne 5, 3) := by decide +kernel
theorem dX4_isOfKind_19 : decode cX4_isOfKind 19 = .ok (.iconst 1, 1) := by decide +kernel
theorem dX4_isOfKind_20 : decode cX4_isOfKind 20 = .ok (.ireturn, 1) := by decide +kernel
theorem dX4_isOfKind_21 : decode cX4_isOfKind 21 = .ok (.iload_n 2, 1) := by decide +kernel
theorem dX4_isOfKind_22 : decode cX4_isOfKind 22 = .ok (.invokestatic 253, 3) := by decide +kernel
theorem dX4_isOfKind_25 : decode cX4_isOfKind 25 = .ok (.istore_n 2, 1) := by decide +kernel
theorem dX4_isOfKind_26 : decode cX4_isOfKind 26 = .ok (.iinc 3 1, 3) := by decide +kernel
theorem dX4_isOfKind_29 : decode cX4_isOfKind 29 = .ok (.goto (-25), 3) := by decide +kernel
theorem dX4_isOfKind_32 : decode cX4_isOfKind 32 = .ok (.iconst 0, 1) := by decide +kernel
theorem dX4_isOfKind_33 : decode cX4_isOfKind 33 = .ok (.ireturn, 1) := by decide +kernel
theorem dX4_grows_0 : decode cX4_grows 0 = .ok (.iload_n 1, 1) := by decide +kernel
theorem dX4_grows_1 : decode cX4_grows 1 = .ok (.ifCond .ge 13, 3) := by decide +kernel
theorem dX4_grows_4 : decode cX4_grows 4 = .ok (.bipush 10, 2) := by decide +kernel
theorem dX4_grows_6 : decode cX4_grows 6 = .ok (.iload_n 1, 1) := by decide +kernel
theorem dX4_grows_7 : decode cX4_grows 7 = .ok (.ineg, 1) := by decide +kernel
theorem dX4_grows_8 : decode cX4_grows 8 = .ok (.iconst 2, 1) := by decide +kernel
theorem dX4_grows_9 : decode cX4_grows 9 = .ok (.idiv, 1) := by decide +kernel
theorem dX4_grows_10 : decode cX4_grows 10 = .ok (.iadd, 1) := by decide +kernel
theorem dX4_grows_11 : decode cX4_grows 11 = .ok (.goto 5, 3) := by decide +kernel
theorem dX4_grows_14 : decode cX4_grows 14 = .ok (.bipush 10, 2) := by decide +kernel
theorem dX4_grows_16 : decode cX4_grows 16 = .ok (.istore_n 2, 1) := by decide +kernel
theorem dX4_grows_17 : decode cX4_grows 17 = .ok (.iload_n 0, 1) := by decide +kernel
theorem dX4_grows_18 : decode cX4_grows 18 = .ok (.tableswitch 66 1 5 #[34, 38, 42, 45, 59], 34) := by decide +kernel
theorem dX4_grows_52 : decode cX4_grows 52 = .ok (.iload_n 2, 1) := by decide +kernel
theorem dX4_grows_53 : decode cX4_grows 53 = .ok (.iconst 4, 1) := by decide +kernel
theorem dX4_grows_54 : decode cX4_grows 54 = .ok (.iadd, 1) := by decide +kernel
theorem dX4_grows_55 : decode cX4_grows 55 = .ok (.ireturn, 1) := by decide +kernel
theorem dX4_grows_56 : decode cX4_grows 56 = .ok (.iload_n 2, 1) := by decide +kernel
theorem dX4_grows_57 : decode cX4_grows 57 = .ok (.iconst 2, 1) := by decide +kernel
theorem dX4_grows_58 : decode cX4_grows 58 = .ok (.idiv, 1) := by decide +kernel
theorem dX4_grows_59 : decode cX4_grows 59 = .ok (.ireturn, 1) := by decide +kernel
theorem dX4_grows_60 : decode cX4_grows 60 = .ok (.bipush 12, 2) := by decide +kernel
theorem dX4_grows_62 : decode cX4_grows 62 = .ok (.ireturn, 1) := by decide +kernel
theorem dX4_grows_63 : decode cX4_grows 63 = .ok (.iload_n 1, 1) := by decide +kernel
theorem dX4_grows_64 : decode cX4_grows 64 = .ok (.bipush 10, 2) := by decide +kernel
theorem dX4_grows_66 : decode cX4_grows 66 = .ok (.if_icmp .le 7, 3) := by decide +kernel
theorem dX4_grows_69 : decode cX4_grows 69 = .ok (.iconst 0, 1) := by decide +kernel
theorem dX4_grows_70 : decode cX4_grows 70 = .ok (.goto 6, 3) := by decide +kernel
theorem dX4_grows_73 : decode cX4_grows 73 = .ok (.iload_n 2, 1) := by decide +kernel
theorem dX4_grows_74 : decode cX4_grows 74 = .ok (.iconst 4, 1) := by decide +kernel
theorem dX4_grows_75 : decode cX4_grows 75 = .ok (.iadd, 1) := by decide +kernel
theorem dX4_grows_76 : decode cX4_grows 76 = .ok (.ireturn, 1) := by decide +kernel
theorem dX4_grows_77 : decode cX4_grows 77 = .ok (.iload_n 2, 1) := by decide +kernel
theorem dX4_grows_78 : decode cX4_grows 78 = .ok (.iconst 2, 1) := by decide +kernel
theorem dX4_grows_79 : decode cX4_grows 79 = .ok (.idiv, 1) := by decide +kernel
theorem dX4_grows_80 : decode cX4_grows 80 = .ok (.bipush 6, 2) := by decide +kernel
theorem dX4_grows_82 : decode cX4_grows 82 = .ok (.iadd, 1) := by decide +kernel
theorem dX4_grows_83 : decode cX4_grows 83 = .ok (.ireturn, 1) := by decide +kernel
theorem dX4_grows_84 : decode cX4_grows 84 = .ok (.iload_n 2, 1) := by decide +kernel
theorem dX4_grows_85 : decode cX4_grows 85 = .ok (.ireturn, 1) := by decide +kernel
theorem dX4_loses_0 : decode cX4_loses 0 = .ok (.iload_n 1, 1) := by decide +kernel
theorem dX4_loses_1 : decode cX4_loses 1 = .ok (.bipush 10, 2) := by decide +kernel
theorem dX4_loses_3 : decode cX4_loses 3 = .ok (.idiv, 1) := by decide +kernel
theorem dX4_loses_4 : decode cX4_loses 4 = .ok (.istore_n 2, 1) := by decide +kernel
theorem dX4_loses_5 : decode cX4_loses 5 = .ok (.iload_n 0, 1) := by decide +kernel
theorem dX4_loses_6 : decode cX4_loses 6 = .ok (.tableswitch 52 1 5 #[34, 36, 52, 40, 42], 34) := by decide +kernel
theorem dX4_loses_40 : decode cX4_loses 40 = .ok (.iconst 0, 1) := by decide +kernel
theorem dX4_loses_41 : decode cX4_loses 41 = .ok (.ireturn, 1) := by decide +kernel
theorem dX4_loses_42 : decode cX4_loses 42 = .ok (.iconst 2, 1) := by decide +kernel
theorem dX4_loses_43 : decode cX4_loses 43 = .ok (.iload_n 2, 1) := by decide +kernel
theorem dX4_loses_44 : decode cX4_loses 44 = .ok (.imul, 1) := by decide +kernel
theorem dX4_loses_45 : decode cX4_loses 45 = .ok (.ireturn, 1) := by decide +kernel
theorem dX4_loses_46 : decode cX4_loses 46 = .ok (.iconst 1, 1) := by decide +kernel
theorem dX4_loses_47 : decode cX4_loses 47 = .ok (.ireturn, 1) := by decide +kernel
theorem dX4_loses_48 : decode cX4_loses 48 = .ok (.iconst 0, 1) := by decide +kernel
theorem dX4_loses_49 : decode cX4_loses 49 = .ok (.iconst 2, 1) := by decide +kernel
theorem dX4_loses_50 : decode cX4_loses 50 = .ok (.iload_n 2, 1) := by decide +kernel
theorem dX4_loses_51 : decode cX4_loses 51 = .ok (.imul, 1) := by decide +kernel
theorem dX4_loses_52 : decode cX4_loses 52 = .ok (.iconst 2, 1) := by decide +kernel
theorem dX4_loses_53 : decode cX4_loses 53 = .ok (.isub, 1) := by decide +kernel
theorem dX4_loses_54 : decode cX4_loses 54 = .ok (.invokestatic 256, 3) := by decide +kernel
theorem dX4_loses_57 : decode cX4_loses 57 = .ok (.ireturn, 1) := by decide +kernel
theorem dX4_loses_58 : decode cX4_loses 58 = .ok (.iload_n 2, 1) := by decide +kernel
theorem dX4_loses_59 : decode cX4_loses 59 = .ok (.ireturn, 1) := by decide +kernel
theorem dX4_calms_0 : decode cX4_calms 0 = .ok (.iload_n 0, 1) := by decide +kernel
theorem dX4_calms_1 : decode cX4_calms 1 = .ok (.tableswitch 43 1 5 #[35, 38, 43, 35, 40], 35) := by decide +kernel
theorem dX4_calms_36 : decode cX4_calms 36 = .ok (.bipush 20, 2) := by decide +kernel
theorem dX4_calms_38 : decode cX4_calms 38 = .ok (.ireturn, 1) := by decide +kernel
theorem dX4_calms_39 : decode cX4_calms 39 = .ok (.iconst 5, 1) := by decide +kernel
theorem dX4_calms_40 : decode cX4_calms 40 = .ok (.ireturn, 1) := by decide +kernel
theorem dX4_calms_41 : decode cX4_calms 41 = .ok (.bipush 15, 2) := by decide +kernel
theorem dX4_calms_43 : decode cX4_calms 43 = .ok (.ireturn, 1) := by decide +kernel
theorem dX4_calms_44 : decode cX4_calms 44 = .ok (.bipush 10, 2) := by decide +kernel
theorem dX4_calms_46 : decode cX4_calms 46 = .ok (.ireturn, 1) := by decide +kernel
theorem dX4_burrs_0 : decode cX4_burrs 0 = .ok (.iload_n 1, 1) := by decide +kernel
theorem dX4_burrs_1 : decode cX4_burrs 1 = .ok (.bipush (-8), 2) := by decide +kernel
theorem dX4_burrs_3 : decode cX4_burrs 3 = .ok (.if_icmp .ge 7, 3) := by decide +kernel
theorem dX4_burrs_6 : decode cX4_burrs 6 = .ok (.iconst 1, 1) := by decide +kernel
theorem dX4_burrs_7 : decode cX4_burrs 7 = .ok (.goto 4, 3) := by decide +kernel
theorem dX4_burrs_10 : decode cX4_burrs 10 = .ok (.iconst 0, 1) := by decide +kernel
theorem dX4_burrs_11 : decode cX4_burrs 11 = .ok (.istore_n 2, 1) := by decide +kernel
theorem dX4_burrs_12 : decode cX4_burrs 12 = .ok (.iload_n 0, 1) := by decide +kernel
theorem dX4_burrs_13 : decode cX4_burrs 13 = .ok (.tableswitch 45 1 5 #[35, 39, 45, 41, 39], 35) := by decide +kernel
theorem dX4_burrs_48 : decode cX4_burrs 48 = .ok (.iload_n 2, 1) := by decide +kernel
theorem dX4_burrs_49 : decode cX4_burrs 49 = .ok (.iconst 1, 1) := by decide +kernel
theorem dX4_burrs_50 : decode cX4_burrs 50 = .ok (.iadd, 1) := by decide +kernel
theorem dX4_burrs_51 : decode cX4_burrs 51 = .ok (.ireturn, 1) := by decide +kernel
theorem dX4_burrs_52 : decode cX4_burrs 52 = .ok (.iconst 0, 1) := by decide +kernel
theorem dX4_burrs_53 : decode cX4_burrs 53 = .ok (.ireturn, 1) := by decide +kernel
theorem dX4_burrs_54 : decode cX4_burrs 54 = .ok (.iload_n 2, 1) := by decide +kernel
theorem dX4_burrs_55 : decode cX4_burrs 55 = .ok (.iconst 3, 1) := by decide +kernel
theorem dX4_burrs_56 : decode cX4_burrs 56 = .ok (.iadd, 1) := by decide +kernel
theorem dX4_burrs_57 : decode cX4_burrs 57 = .ok (.ireturn, 1) := by decide +kernel
theorem dX4_burrs_58 : decode cX4_burrs 58 = .ok (.iload_n 2, 1) := by decide +kernel
theorem dX4_burrs_59 : decode cX4_burrs 59 = .ok (.ireturn, 1) := by decide +kernel
end
section
theorem dX5_init_0 : decode cX5_init 0 = .ok (.aload_n 0, 1) := by decide +kernel
theorem dX5_init_1 : decode cX5_init 1 = .ok (.invokespecial 1, 3) := by decide +kernel
theorem dX5_init_4 : decode cX5_init 4 = .ok (.aload_n 0, 1) := by decide +kernel
theorem dX5_init_5 : decode cX5_init 5 = .ok (.sipush 198, 3) := by decide +kernel
theorem dX5_init_8 : decode cX5_init 8 = .ok (.newarray .int, 2) := by decide +kernel
theorem dX5_init_10 : decode cX5_init 10 = .ok (.putfield 7, 3) := by decide +kernel
theorem dX5_init_13 : decode cX5_init 13 = .ok (.aload_n 0, 1) := by decide +kernel
theorem dX5_init_14 : decode cX5_init 14 = .ok (.sipush 198, 3) := by decide +kernel
theorem dX5_init_17 : decode cX5_init 17 = .ok (.newarray .int, 2) := by decide +kernel
theorem dX5_init_19 : decode cX5_init 19 = .ok (.putfield 13, 3) := by decide +kernel
theorem dX5_init_22 : decode cX5_init 22 = .ok (.aload_n 0, 1) := by decide +kernel
theorem dX5_init_23 : decode cX5_init 23 = .ok (.sipush 198, 3) := by decide +kernel
theorem dX5_init_26 : decode cX5_init 26 = .ok (.newarray .int, 2) := by decide +kernel
theorem dX5_init_28 : decode cX5_init 28 = .ok (.putfield 16, 3) := by decide +kernel
theorem dX5_init_31 : decode cX5_init 31 = .ok (.aload_n 0, 1) := by decide +kernel
theorem dX5_init_32 : decode cX5_init 32 = .ok (.sipush 198, 3) := by decide +kernel
theorem dX5_init_35 : decode cX5_init 35 = .ok (.newarray .int, 2) := by decide +kernel
theorem dX5_init_37 : decode cX5_init 37 = .ok (.putfield 19, 3) := by decide +kernel
theorem dX5_init_40 : decode cX5_init 40 = .ok (.aload_n 0, 1) := by decide +kernel
theorem dX5_init_41 : decode cX5_init 41 = .ok (.bipush 7, 2) := by decide +kernel
theorem dX5_init_43 : decode cX5_init 43 = .ok (.newarray .int, 2) := by decide +kernel
theorem dX5_init_45 : decode cX5_init 45 = .ok (.putfield 22, 3) := by decide +kernel
theorem dX5_init_48 : decode cX5_init 48 = .ok (.aload_n 0, 1) := by decide +kernel
theorem dX5_init_49 : decode cX5_init 49 = .ok (.bipush 120, 2) := by decide +kernel
theorem dX5_init_51 : decode cX5_init 51 = .ok (.newarray .int, 2) := by decide +kernel
theorem dX5_init_53 : decode cX5_init 53 = .ok (.putfield 25, 3) := by decide +kernel
theorem dX5_init_56 : decode cX5_init 56 = .ok (.aload_n 0, 1) := by decide +kernel
theorem dX5_init_57 : decode cX5_init 57 = .ok (.iconst 4, 1) := by decide +kernel
theorem dX5_init_58 : decode cX5_init 58 = .ok (.newarray .int, 2) := by decide +kernel
theorem dX5_init_60 : decode cX5_init 60 = .ok (.putfield 28, 3) := by decide +kernel
theorem dX5_init_63 : decode cX5_init 63 = .ok (.aload_n 0, 1) := by decide +kernel
theorem dX5_init_64 : decode cX5_init 64 = .ok (.iconst 4, 1) := by decide +kernel
theorem dX5_init_65 : decode cX5_init 65 = .ok (.newarray .int, 2) := by decide +kernel
theorem dX5_init_67 : decode cX5_init 67 = .ok (.putfield 31, 3) := by decide +kernel
theorem dX5_init_70 : decode cX5_init 70 = .ok (.aload_n 0, 1) := by decide +kernel
theorem dX5_init_71 : decode cX5_init 71 = .ok (.sipush 160, 3) := by decide +kernel
theorem dX5_init_74 : decode cX5_init 74 = .ok (.newarray .long, 2) := by decide +kernel
theorem dX5_init_76 : decode cX5_init 76 = .ok (.putfield 34, 3) := by decide +kernel
theorem dX5_init_79 : decode cX5_init 79 = .ok (.aload_n 0, 1) := by decide +kernel
theorem dX5_init_80 : decode cX5_init 80 = .ok (.bipush 40, 2) := by decide +kernel
theorem dX5_init_82 : decode cX5_init 82 = .ok (.newarray .long, 2) := by decide +kernel
theorem dX5_init_84 : decode cX5_init 84 = .ok (.putfield 38, 3) := by decide +kernel
theorem dX5_init_87 : decode cX5_init 87 = .ok (.iconst 0, 1) := by decide +kernel
theorem dX5_init_88 : decode cX5_init 88 = .ok (.istore_n 1, 1) := by decide +kernel
theorem dX5_init_89 : decode cX5_init 89 = .ok (.iload_n 1, 1) := by decide +kernel
theorem dX5_init_90 : decode cX5_init 90 = .ok (.bipush 12, 2) := by decide +kernel
theorem dX5_init_92 : decode cX5_init 92 = .ok (.if_icmp .ge 27, 3) := by decide +kernel
theorem dX5_init_95 : decode cX5_init 95 = .ok (.aload_n 0, 1) := by decide +kernel
theorem dX5_init_96 : decode cX5_init 96 = .ok (.getfield 7, 3) := by decide +kernel
theorem dX5_init_99 : decode cX5_init 99 = .ok (.iconst 2, 1) := by decide +kernel
theorem dX5_init_100 : decode cX5_init 100 = .ok (.iload_n 1, 1) := by decide +kernel
theorem dX5_init_101 : decode cX5_init 101 = .ok (.iadd, 1) := by decide +kernel
theorem dX5_init_102 : decode cX5_init 102 = .ok (.bipush 7, 2) := by decide +kernel
theorem dX5_init_104 : decode cX5_init 104 = .ok (.iload_n 1, 1) := by decide +kernel
theorem dX5_init_105 : decode cX5_init 105 = .ok (.imul, 1) := by decide +kernel
theorem dX5_init_106 : decode cX5_init 106 = .ok (.bipush 25, 2) := by decide +kernel
theorem dX5_init_108 : decode cX5_init 108 = .ok (.irem, 1) := by decide +kernel
theorem dX5_init_109 : decode cX5_init 109 = .ok (.bipush 12, 2) := by decide +kernel
theorem dX5_init_111 : decode cX5_init 111 = .ok (.isub, 1) := by decide +kernel
theorem dX5_init_112 : decode cX5_init 112 = .ok (.iastore, 1) := by decide +kernel
theorem dX5_init_113 : decode cX5_init 113 = .ok (.iinc 1 1, 3) := by decide +kernel
theorem dX5_init_116 : decode cX5_init 116 = .ok (.goto (-27), 3) := by decide +kernel
theorem dX5_init_119 : decode cX5_init 119 = .ok (.return_, 1) := by decide +kernel
theorem dX5_in_0 : decode cX5_in 0 = .ok (.lload_n 0, 1) := by decide +kernel
theorem dX5_in_1 : decode cX5_in 1 = .ok (.lload_n 2, 1) := by decide +kernel
theorem dX5_in_2 : decode cX5_in 2 = .ok (.lcmp, 1) := by decide +kernel
theorem dX5_in_3 : decode cX5_in 3 = .ok (.ifCond .lt 14, 3) := by decide +kernel
theorem dX5_in_6 : decode cX5_in 6 = .ok (.lload_n 0, 1) := by decide +kernel
theorem dX5_in_7 : decode cX5_in 7 = .ok (.lload 4, 2) := by decide +kernel
theorem dX5_in_9 : decode cX5_in 9 = .ok (.lcmp, 1) := by decide +kernel
theorem dX5_in_10 : decode cX5_in 10 = .ok (.ifCond .gt 7, 3) := by decide +kernel
theorem dX5_in_13 : decode cX5_in 13 = .ok (.iconst 1, 1) := by decide +kernel
theorem dX5_in_14 : decode cX5_in 14 = .ok (.goto 4, 3) := by decide +kernel
theorem dX5_in_17 : decode cX5_in 17 = .ok (.iconst 0, 1) := by decide +kernel
theorem dX5_in_18 : decode cX5_in 18 = .ok (.ireturn, 1) := by decide +kernel
theorem dX5_finds_0 : decode cX5_finds 0 = .ok (.aload_n 0, 1) := by decide +kernel
theorem dX5_finds_1 : decode cX5_finds 1 = .ok (.getfield 22, 3) := by decide +kernel
theorem dX5_finds_4 : decode cX5_finds 4 = .ok (.ldc 41, 2) := by decide +kernel
theorem dX5_finds_6 : decode cX5_finds 6 = .ok (.iload_n 1, 1) := by decide +kernel
theorem dX5_finds_7 : decode cX5_finds 7 = .ok (.isub, 1) := by decide +kernel
theorem dX5_finds_8 : decode cX5_finds 8 = .ok (.dup2, 1) := by decide +kernel
theorem dX5_finds_9 : decode cX5_finds 9 = .ok (.iaload, 1) := by decide +kernel
theorem dX5_finds_10 : decode cX5_finds 10 = .ok (.iconst 1, 1) := by decide +kernel
theorem dX5_finds_11 : decode cX5_finds 11 = .ok (.iadd, 1) := by decide +kernel
theorem dX5_finds_12 : decode cX5_finds 12 = .ok (.iastore, 1) := by decide +kernel
theorem dX5_finds_13 : decode cX5_finds 13 = .ok (.iload_n 1, 1) := by decide +kernel
theorem dX5_finds_14 : decode cX5_finds 14 = .ok (.ireturn, 1) := by decide +kernel
theorem dX5_saves_0 : decode cX5_saves 0 = .ok (.iconst 0, 1) := by decide +kernel
theorem dX5_saves_1 : decode cX5_saves 1 = .ok (.istore_n 1, 1) := by decide +kernel
theorem dX5_saves_2 : decode cX5_saves 2 = .ok (.iload_n 1, 1) := by decide +kernel
theorem dX5_saves_3 : decode cX5_saves 3 = .ok (.sipush 198, 3) := by decide +kernel
theorem dX5_saves_6 : decode cX5_saves 6 = .ok (.if_icmp .ge 21, 3) := by decide +kernel
theorem dX5_saves_9 : decode cX5_saves 9 = .ok (.aload_n 0, 1) := by decide +kernel
theorem dX5_saves_10 : decode cX5_saves 10 = .ok (.getfield 16, 3) := by decide +kernel
theorem dX5_saves_13 : decode cX5_saves 13 = .ok (.iload_n 1, 1) := by decide +kernel
theorem dX5_saves_14 : decode cX5_saves 14 = .ok (.aload_n 0, 1) := by decide +kernel
theorem dX5_saves_15 : decode cX5_saves 15 = .ok (.getfield 7, 3) := by decide +kernel
theorem dX5_saves_18 : decode cX5_saves 18 = .ok (.iload_n 1, 1) := by decide +kernel
theorem dX5_saves_19 : decode cX5_saves 19 = .ok (.iaload, 1) := by decide +kernel
theorem dX5_saves_20 : decode cX5_saves 20 = .ok (.iastore, 1) := by decide +kernel
theorem dX5_saves_21 : decode cX5_saves 21 = .ok (.iinc 1 1, 3) := by decide +kernel
theorem dX5_saves_24 : decode cX5_saves 24 = .ok (.goto (-22), 3) := by decide +kernel
theorem dX5_saves_27 : decode cX5_saves 27 = .ok (.return_, 1) := by decide +kernel
theorem dX5_putsBack_0 : decode cX5_putsBack 0 = .ok (.iconst 0, 1) := by decide +kernel
theorem dX5_putsBack_1 : decode cX5_putsBack 1 = .ok (.istore_n 1, 1) := by decide +kernel
theorem dX5_putsBack_2 : decode cX5_putsBack 2 = .ok (.iload_n 1, 1) := by decide +kernel
theorem dX5_putsBack_3 : decode cX5_putsBack 3 = .ok (.sipush 198, 3) := by decide +kernel
theorem dX5_putsBack_6 : decode cX5_putsBack 6 = .ok (.if_icmp .ge 21, 3) := by decide +kernel
theorem dX5_putsBack_9 : decode cX5_putsBack 9 = .ok (.aload_n 0, 1) := by decide +kernel
theorem dX5_putsBack_10 : decode cX5_putsBack 10 = .ok (.getfield 7, 3) := by decide +kernel
theorem dX5_putsBack_13 : decode cX5_putsBack 13 = .ok (.iload_n 1, 1) := by decide +kernel
theorem dX5_putsBack_14 : decode cX5_putsBack 14 = .ok (.aload_n 0, 1) := by decide +kernel
theorem dX5_putsBack_15 : decode cX5_putsBack 15 = .ok (.getfield 16, 3) := by decide +kernel
theorem dX5_putsBack_18 : decode cX5_putsBack 18 = .ok (.iload_n 1, 1) := by decide +kernel
theorem dX5_putsBack_19 : decode cX5_putsBack 19 = .ok (.iaload, 1) := by decide +kernel
theorem dX5_putsBack_20 : decode cX5_putsBack 20 = .ok (.iastore, 1) := by decide +kernel
theorem dX5_putsBack_21 : decode cX5_putsBack 21 = .ok (.iinc 1 1, 3) := by decide +kernel
theorem dX5_putsBack_24 : decode cX5_putsBack 24 = .ok (.goto (-22), 3) := by decide +kernel
theorem dX5_putsBack_27 : decode cX5_putsBack 27 = .ok (.return_, 1) := by decide +kernel
theorem dX5_laysAside_0 : decode cX5_laysAside 0 = .ok (.iconst 0, 1) := by decide +kernel
theorem dX5_laysAside_1 : decode cX5_laysAside 1 = .ok (.istore_n 1, 1) := by decide +kernel
theorem dX5_laysAside_2 : decode cX5_laysAside 2 = .ok (.iload_n 1, 1) := by decide +kernel
theorem dX5_laysAside_3 : decode cX5_laysAside 3 = .ok (.sipush 198, 3) := by decide +kernel
theorem dX5_laysAside_6 : decode cX5_laysAside 6 = .ok (.if_icmp .ge 21, 3) := by decide +kernel
theorem dX5_laysAside_9 : decode cX5_laysAside 9 = .ok (.aload_n 0, 1) := by decide +kernel
theorem dX5_laysAside_10 : decode cX5_laysAside 10 = .ok (.getfield 19, 3) := by decide +kernel
theorem dX5_laysAside_13 : decode cX5_laysAside 13 = .ok (.iload_n 1, 1) := by decide +kernel
theorem dX5_laysAside_14 : decode cX5_laysAside 14 = .ok (.aload_n 0, 1) := by decide +kernel
theorem dX5_laysAside_15 : decode cX5_laysAside 15 = .ok (.getfield 7, 3) := by decide +kernel
theorem dX5_laysAside_18 : decode cX5_laysAside 18 = .ok (.iload_n 1, 1) := by decide +kernel
theorem dX5_laysAside_19 : decode cX5_laysAside 19 = .ok (.iaload, 1) := by decide +kernel
theorem dX5_laysAside_20 : decode cX5_laysAside 20 = .ok (.iastore, 1) := by decide +kernel
theorem dX5_laysAside_21 : decode cX5_laysAside 21 = .ok (.iinc 1 1, 3) := by decide +kernel
theorem dX5_laysAside_24 : decode cX5_laysAside 24 = .ok (.goto (-22), 3) := by decide +kernel
theorem dX5_laysAside_27 : decode cX5_laysAside 27 = .ok (.return_, 1) := by decide +kernel
theorem dX5_takesBack_0 : decode cX5_takesBack 0 = .ok (.iconst 0, 1) := by decide +kernel
theorem dX5_takesBack_1 : decode cX5_takesBack 1 = .ok (.istore_n 2, 1) := by decide +kernel
theorem dX5_takesBack_2 : decode cX5_takesBack 2 = .ok (.iload_n 2, 1) := by decide +kernel
theorem dX5_takesBack_3 : decode cX5_takesBack 3 = .ok (.sipush 198, 3) := by decide +kernel
theorem dX5_takesBack_6 : decode cX5_takesBack 6 = .ok (.if_icmp .ge 21, 3) := by decide +kernel
theorem dX5_takesBack_9 : decode cX5_takesBack 9 = .ok (.aload_n 0, 1) := by decide +kernel
theorem dX5_takesBack_10 : decode cX5_takesBack 10 = .ok (.getfield 7, 3) := by decide +kernel
theorem dX5_takesBack_13 : decode cX5_takesBack 13 = .ok (.iload_n 2, 1) := by decide +kernel
theorem dX5_takesBack_14 : decode cX5_takesBack 14 = .ok (.aload_n 0, 1) := by decide +kernel
theorem dX5_takesBack_15 : decode cX5_takesBack 15 = .ok (.getfield 19, 3) := by decide +kernel
theorem dX5_takesBack_18 : decode cX5_takesBack 18 = .ok (.iload_n 2, 1) := by decide +kernel
theorem dX5_takesBack_19 : decode cX5_takesBack 19 = .ok (.iaload, 1) := by decide +kernel
theorem dX5_takesBack_20 : decode cX5_takesBack 20 = .ok (.iastore, 1) := by decide +kernel
theorem dX5_takesBack_21 : decode cX5_takesBack 21 = .ok (.iinc 2 1, 3) := by decide +kernel
theorem dX5_takesBack_24 : decode cX5_takesBack 24 = .ok (.goto (-22), 3) := by decide +kernel
theorem dX5_takesBack_27 : decode cX5_takesBack 27 = .ok (.iload_n 1, 1) := by decide +kernel
theorem dX5_takesBack_28 : decode cX5_takesBack 28 = .ok (.ireturn, 1) := by decide +kernel
theorem dX5_becomes_0 : decode cX5_becomes 0 = .ok (.aload_n 0, 1) := by decide +kernel
theorem dX5_becomes_1 : decode cX5_becomes 1 = .ok (.getfield 7, 3) := by decide +kernel
theorem dX5_becomes_4 : decode cX5_becomes 4 = .ok (.iload_n 1, 1) := by decide +kernel
theorem dX5_becomes_5 : decode cX5_becomes 5 = .ok (.iaload, 1) := by decide +kernel
theorem dX5_becomes_6 : decode cX5_becomes 6 = .ok (.istore_n 3, 1) := by decide +kernel
theorem dX5_becomes_7 : decode cX5_becomes 7 = .ok (.aload_n 0, 1) := by decide +kernel
theorem dX5_becomes_8 : decode cX5_becomes 8 = .ok (.getfield 7, 3) := by decide +kernel
theorem dX5_becomes_11 : decode cX5_becomes 11 = .ok (.iload_n 1, 1) := by decide +kernel
theorem dX5_becomes_12 : decode cX5_becomes 12 = .ok (.iload_n 2, 1) := by decide +kernel
theorem dX5_becomes_13 : decode cX5_becomes 13 = .ok (.iastore, 1) := by decide +kernel
theorem dX5_becomes_14 : decode cX5_becomes 14 = .ok (.iload_n 3, 1) := by decide +kernel
theorem dX5_becomes_15 : decode cX5_becomes 15 = .ok (.ireturn, 1) := by decide +kernel
theorem dX5_spot_0 : decode cX5_spot 0 = .ok (.bipush 38, 2) := by decide +kernel
theorem dX5_spot_2 : decode cX5_spot 2 = .ok (.bipush 14, 2) := by decide +kernel
theorem dX5_spot_4 : decode cX5_spot 4 = .ok (.iload_n 0, 1) := by decide +kernel
theorem dX5_spot_5 : decode cX5_spot 5 = .ok (.imul, 1) := by decide +kernel
theorem dX5_spot_6 : decode cX5_spot 6 = .ok (.iadd, 1) := by decide +kernel
theorem dX5_spot_7 : decode cX5_spot 7 = .ok (.iload_n 1, 1) := by decide +kernel
theorem dX5_spot_8 : decode cX5_spot 8 = .ok (.iadd, 1) := by decide +kernel
theorem dX5_spot_9 : decode cX5_spot 9 = .ok (.ireturn, 1) := by decide +kernel
theorem dX5_coatSpot_0 : decode cX5_coatSpot 0 = .ok (.sipush 150, 3) := by decide +kernel
theorem dX5_coatSpot_3 : decode cX5_coatSpot 3 = .ok (.bipush 12, 2) := by decide +kernel
theorem dX5_coatSpot_5 : decode cX5_coatSpot 5 = .ok (.iload_n 0, 1) := by decide +kernel
theorem dX5_coatSpot_6 : decode cX5_coatSpot 6 = .ok (.imul, 1) := by decide +kernel
theorem dX5_coatSpot_7 : decode cX5_coatSpot 7 = .ok (.iadd, 1) := by decide +kernel
theorem dX5_coatSpot_8 : decode cX5_coatSpot 8 = .ok (.iload_n 1, 1) := by decide +kernel
theorem dX5_coatSpot_9 : decode cX5_coatSpot 9 = .ok (.iadd, 1) := by decide +kernel
theorem dX5_coatSpot_10 : decode cX5_coatSpot 10 = .ok (.ireturn, 1) := by decide +kernel
theorem dX5_its_0 : decode cX5_its 0 = .ok (.aload_n 0, 1) := by decide +kernel
theorem dX5_its_1 : decode cX5_its 1 = .ok (.getfield 7, 3) := by decide +kernel
theorem dX5_its_4 : decode cX5_its 4 = .ok (.iload_n 1, 1) := by decide +kernel
theorem dX5_its_5 : decode cX5_its 5 = .ok (.iload_n 2, 1) := by decide +kernel
theorem dX5_its_6 : decode cX5_its 6 = .ok (.invokestatic 42, 3) := by decide +kernel
theorem dX5_its_9 : decode cX5_its 9 = .ok (.iaload, 1) := by decide +kernel
theorem dX5_its_10 : decode cX5_its 10 = .ok (.ireturn, 1) := by decide +kernel
theorem dX5_isEwe_0 : decode cX5_isEwe 0 = .ok (.iload_n 1, 1) := by decide +kernel
theorem dX5_isEwe_1 : decode cX5_isEwe 1 = .ok (.i2l, 1) := by decide +kernel
theorem dX5_isEwe_2 : decode cX5_isEwe 2 = .ok (.lconst 0, 1) := by decide +kernel
theorem dX5_isEwe_3 : decode cX5_isEwe 3 = .ok (.aload_n 0, 1) := by decide +kernel
theorem dX5_isEwe_4 : decode cX5_isEwe 4 = .ok (.getfield 7, 3) := by decide +kernel
theorem dX5_isEwe_7 : decode cX5_isEwe 7 = .ok (.iconst 1, 1) := by decide +kernel
theorem dX5_isEwe_8 : decode cX5_isEwe 8 = .ok (.iaload, 1) := by decide +kernel
theorem dX5_isEwe_9 : decode cX5_isEwe 9 = .ok (.iconst 1, 1) := by decide +kernel
theorem dX5_isEwe_10 : decode cX5_isEwe 10 = .ok (.isub, 1) := by decide +kernel
theorem dX5_isEwe_11 : decode cX5_isEwe 11 = .ok (.i2l, 1) := by decide +kernel
theorem dX5_isEwe_12 : decode cX5_isEwe 12 = .ok (.invokestatic 46, 3) := by decide +kernel
theorem dX5_isEwe_15 : decode cX5_isEwe 15 = .ok (.ireturn, 1) := by decide +kernel
theorem dX5_isMonth_0 : decode cX5_isMonth 0 = .ok (.iload_n 0, 1) := by decide +kernel
theorem dX5_isMonth_1 : decode cX5_isMonth 1 = .ok (.i2l, 1) := by decide +kernel
theorem dX5_isMonth_2 : decode cX5_isMonth 2 = .ok (.lconst 0, 1) := by decide +kernel
theorem dX5_isMonth_3 : decode cX5_isMonth 3 = .ok (.ldc2_w 50, 3) := by decide +kernel
theorem dX5_isMonth_6 : decode cX5_isMonth 6 = .ok (.invokestatic 46, 3) := by decide +kernel
theorem dX5_isMonth_9 : decode cX5_isMonth 9 = .ok (.ireturn, 1) := by decide +kernel
theorem dX5_isCoat_0 : decode cX5_isCoat 0 = .ok (.iload_n 0, 1) := by decide +kernel
theorem dX5_isCoat_1 : decode cX5_isCoat 1 = .ok (.i2l, 1) := by decide +kernel
theorem dX5_isCoat_2 : decode cX5_isCoat 2 = .ok (.lconst 0, 1) := by decide +kernel
theorem dX5_isCoat_3 : decode cX5_isCoat 3 = .ok (.ldc2_w 52, 3) := by decide +kernel
theorem dX5_isCoat_6 : decode cX5_isCoat 6 = .ok (.invokestatic 46, 3) := by decide +kernel
theorem dX5_isCoat_9 : decode cX5_isCoat 9 = .ok (.ireturn, 1) := by decide +kernel
theorem dX5_isKind_0 : decode cX5_isKind 0 = .ok (.iload_n 0, 1) := by decide +kernel
theorem dX5_isKind_1 : decode cX5_isKind 1 = .ok (.i2l, 1) := by decide +kernel
theorem dX5_isKind_2 : decode cX5_isKind 2 = .ok (.lconst 0, 1) := by decide +kernel
theorem dX5_isKind_3 : decode cX5_isKind 3 = .ok (.ldc2_w 54, 3) := by decide +kernel
theorem dX5_isKind_6 : decode cX5_isKind 6 = .ok (.invokestatic 46, 3) := by decide +kernel
theorem dX5_isKind_9 : decode cX5_isKind 9 = .ok (.ireturn, 1) := by decide +kernel
theorem dX5_isWeather_0 : decode cX5_isWeather 0 = .ok (.lload_n 0, 1) := by decide +kernel
theorem dX5_isWeather_1 : decode cX5_isWeather 1 = .ok (.ldc2_w 56, 3) := by decide +kernel
theorem dX5_isWeather_4 : decode cX5_isWeather 4 = .ok (.ldc2_w 58, 3) := by decide +kernel
theorem dX5_isWeather_7 : decode cX5_isWeather 7 = .ok (.invokestatic 46, 3) := by decide +kernel
theorem dX5_isWeather_10 : decode cX5_isWeather 10 = .ok (.ireturn, 1) := by decide +kernel
theorem dX5_heldTo_0 : decode cX5_heldTo 0 = .ok (.iload_n 0, 1) := by decide +kernel
theorem dX5_heldTo_1 : decode cX5_heldTo 1 = .ok (.iload_n 1, 1) := by decide +kernel
theorem dX5_heldTo_2 : decode cX5_heldTo 2 = .ok (.if_icmp .le 7, 3) := by decide +kernel
theorem dX5_heldTo_5 : decode cX5_heldTo 5 = .ok (.iload_n 1, 1) := by decide +kernel
theorem dX5_heldTo_6 : decode cX5_heldTo 6 = .ok (.goto 4, 3) := by decide +kernel
theorem dX5_heldTo_9 : decode cX5_heldTo 9 = .ok (.iload_n 0, 1) := by decide +kernel
theorem dX5_heldTo_10 : decode cX5_heldTo 10 = .ok (.ireturn, 1) := by decide +kernel
theorem dX5_twelve_0 : decode cX5_twelve 0 = .ok (.iconst 0, 1) := by decide +kernel
theorem dX5_twelve_1 : decode cX5_twelve 1 = .ok (.istore_n 2, 1) := by decide +kernel
theorem dX5_twelve_2 : decode cX5_twelve 2 = .ok (.iconst 0, 1) := by decide +kernel
theorem dX5_twelve_3 : decode cX5_twelve 3 = .ok (.istore_n 3, 1) := by decide +kernel
theorem dX5_twelve_4 : decode cX5_twelve 4 = .ok (.iload_n 3, 1) := by decide +kernel
theorem dX5_twelve_5 : decode cX5_twelve 5 = .ok (.bipush 12, 2) := by decide +kernel
theorem dX5_twelve_7 : decode cX5_twelve 7 = .ok (.if_icmp .ge 20, 3) := by decide +kernel
theorem dX5_twelve_10 : decode cX5_twelve 10 = .ok (.iload_n 2, 1) := by decide +kernel
theorem dX5_twelve_11 : decode cX5_twelve 11 = .ok (.aload_n 0, 1) := by decide +kernel
theorem dX5_twelve_12 : decode cX5_twelve 12 = .ok (.getfield 7, 3) := by decide +kernel
theorem dX5_twelve_15 : decode cX5_twelve 15 = .ok (.iload_n 1, 1) := by decide +kernel
theorem dX5_twelve_16 : decode cX5_twelve 16 = .ok (.iload_n 3, 1) := by decide +kernel
theorem dX5_twelve_17 : decode cX5_twelve 17 = .ok (.iadd, 1) := by decide +kernel
theorem dX5_twelve_18 : decode cX5_twelve 18 = .ok (.iaload, 1) := by decide +kernel
theorem dX5_twelve_19 : decode cX5_twelve 19 = .ok (.iadd, 1) := by decide +kernel
theorem dX5_twelve_20 : decode cX5_twelve 20 = .ok (.istore_n 2, 1) := by decide +kernel
theorem dX5_twelve_21 : decode cX5_twelve 21 = .ok (.iinc 3 1, 3) := by decide +kernel
theorem dX5_twelve_24 : decode cX5_twelve 24 = .ok (.goto (-20), 3) := by decide +kernel
theorem dX5_twelve_27 : decode cX5_twelve 27 = .ok (.iload_n 2, 1) := by decide +kernel
theorem dX5_twelve_28 : decode cX5_twelve 28 = .ok (.ireturn, 1) := by decide +kernel
theorem dX5_woolOf_0 : decode cX5_woolOf 0 = .ok (.aload_n 0, 1) := by decide +kernel
theorem dX5_woolOf_1 : decode cX5_woolOf 1 = .ok (.iload_n 1, 1) := by decide +kernel
theorem dX5_woolOf_2 : decode cX5_woolOf 2 = .ok (.iconst 2, 1) := by decide +kernel
theorem dX5_woolOf_3 : decode cX5_woolOf 3 = .ok (.invokestatic 42, 3) := by decide +kernel
theorem dX5_woolOf_6 : decode cX5_woolOf 6 = .ok (.invokevirtual 60, 3) := by decide +kernel
theorem dX5_woolOf_9 : decode cX5_woolOf 9 = .ok (.ireturn, 1) := by decide +kernel
theorem dX5_fleeces_0 : decode cX5_fleeces 0 = .ok (.iconst 0, 1) := by decide +kernel
theorem dX5_fleeces_1 : decode cX5_fleeces 1 = .ok (.istore_n 1, 1) := by decide +kernel
theorem dX5_fleeces_2 : decode cX5_fleeces 2 = .ok (.iconst 0, 1) := by decide +kernel
theorem dX5_fleeces_3 : decode cX5_fleeces 3 = .ok (.istore_n 2, 1) := by decide +kernel
theorem dX5_fleeces_4 : decode cX5_fleeces 4 = .ok (.iload_n 2, 1) := by decide +kernel
theorem dX5_fleeces_5 : decode cX5_fleeces 5 = .ok (.aload_n 0, 1) := by decide +kernel
theorem dX5_fleeces_6 : decode cX5_fleeces 6 = .ok (.getfield 7, 3) := by decide +kernel
theorem dX5_fleeces_9 : decode cX5_fleeces 9 = .ok (.iconst 1, 1) := by decide +kernel
theorem dX5_fleeces_10 : decode cX5_fleeces 10 = .ok (.iaload, 1) := by decide +kernel
theorem dX5_fleeces_11 : decode cX5_fleeces 11 = .ok (.if_icmp .ge 17, 3) := by decide +kernel
theorem dX5_fleeces_14 : decode cX5_fleeces 14 = .ok (.iload_n 1, 1) := by decide +kernel
theorem dX5_fleeces_15 : decode cX5_fleeces 15 = .ok (.aload_n 0, 1) := by decide +kernel
theorem dX5_fleeces_16 : decode cX5_fleeces 16 = .ok (.iload_n 2, 1) := by decide +kernel
theorem dX5_fleeces_17 : decode cX5_fleeces 17 = .ok (.invokevirtual 64, 3) := by decide +kernel
theorem dX5_fleeces_20 : decode cX5_fleeces 20 = .ok (.iadd, 1) := by decide +kernel
theorem dX5_fleeces_21 : decode cX5_fleeces 21 = .ok (.istore_n 1, 1) := by decide +kernel
theorem dX5_fleeces_22 : decode cX5_fleeces 22 = .ok (.iinc 2 1, 3) := by decide +kernel
theorem dX5_fleeces_25 : decode cX5_fleeces 25 = .ok (.goto (-21), 3) := by decide +kernel
theorem dX5_fleeces_28 : decode cX5_fleeces 28 = .ok (.iload_n 1, 1) := by decide +kernel
theorem dX5_fleeces_29 : decode cX5_fleeces 29 = .ok (.ireturn, 1) := by decide +kernel
theorem dX5_weather_0 : decode cX5_weather 0 = .ok (.iload_n 1, 1) := by decide +kernel
theorem dX5_weather_1 : decode cX5_weather 1 = .ok (.invokestatic 67, 3) := by decide +kernel
theorem dX5_weather_4 : decode cX5_weather 4 = .ok (.ifCond .eq 22, 3) := by decide +kernel
theorem dX5_weather_7 : decode cX5_weather 7 = .ok (.iload_n 2, 1) := by decide +kernel
theorem dX5_weather_8 : decode cX5_weather 8 = .ok (.i2l, 1) := by decide +kernel
theorem dX5_weather_9 : decode cX5_weather 9 = .ok (.invokestatic 71, 3) := by decide +kernel
theorem dX5_weather_12 : decode cX5_weather 12 = .ok (.ifCond .eq 14, 3) := by decide +kernel
theorem dX5_weather_15 : decode cX5_weather 15 = .ok (.aload_n 0, 1) := by decide +kernel
theorem dX5_weather_16 : decode cX5_weather 16 = .ok (.iconst 2, 1) := by decide +kernel
theorem dX5_weather_17 : decode cX5_weather 17 = .ok (.iload_n 1, 1) := by decide +kernel
theorem dX5_weather_18 : decode cX5_weather 18 = .ok (.iadd, 1) := by decide +kernel
theorem dX5_weather_19 : decode cX5_weather 19 = .ok (.iload_n 2, 1) := by decide +kernel
theorem dX5_weather_20 : decode cX5_weather 20 = .ok (.invokevirtual 75, 3) := by decide +kernel
theorem dX5_weather_23 : decode cX5_weather 23 = .ok (.goto 9, 3) := by decide +kernel
theorem dX5_weather_26 : decode cX5_weather 26 = .ok (.aload_n 0, 1) := by decide +kernel
theorem dX5_weather_27 : decode cX5_weather 27 = .ok (.ldc 41, 2) := by decide +kernel
theorem dX5_weather_29 : decode cX5_weather 29 = .ok (.invokevirtual 78, 3) := by decide +kernel
theorem dX5_weather_32 : decode cX5_weather 32 = .ok (.ireturn, 1) := by decide +kernel
theorem dX5_monthOf_0 : decode cX5_monthOf 0 = .ok (.iload_n 1, 1) := by decide +kernel
theorem dX5_monthOf_1 : decode cX5_monthOf 1 = .ok (.invokestatic 67, 3) := by decide +kernel
theorem dX5_monthOf_4 : decode cX5_monthOf 4 = .ok (.ifCond .eq 15, 3) := by decide +kernel
theorem dX5_monthOf_7 : decode cX5_monthOf 7 = .ok (.iload_n 2, 1) := by decide +kernel
theorem dX5_monthOf_8 : decode cX5_monthOf 8 = .ok (.i2l, 1) := by decide +kernel
theorem dX5_monthOf_9 : decode cX5_monthOf 9 = .ok (.lconst 0, 1) := by decide +kernel
theorem dX5_monthOf_10 : decode cX5_monthOf 10 = .ok (.ldc2_w 81, 3) := by decide +kernel
theorem dX5_monthOf_13 : decode cX5_monthOf 13 = .ok (.invokestatic 46, 3) := by decide +kernel
theorem dX5_monthOf_16 : decode cX5_monthOf 16 = .ok (.ifCond .ne 10, 3) := by decide +kernel
theorem dX5_monthOf_19 : decode cX5_monthOf 19 = .ok (.aload_n 0, 1) := by decide +kernel
theorem dX5_monthOf_20 : decode cX5_monthOf 20 = .ok (.ldc 41, 2) := by decide +kernel
theorem dX5_monthOf_22 : decode cX5_monthOf 22 = .ok (.invokevirtual 78, 3) := by decide +kernel
theorem dX5_monthOf_25 : decode cX5_monthOf 25 = .ok (.ireturn, 1) := by decide +kernel
theorem dX5_monthOf_26 : decode cX5_monthOf 26 = .ok (.iload_n 2, 1) := by decide +kernel
theorem dX5_monthOf_27 : decode cX5_monthOf 27 = .ok (.ifCond .ne 17, 3) := by decide +kernel
theorem dX5_monthOf_30 : decode cX5_monthOf 30 = .ok (.bipush 100, 2) := by decide +kernel
theorem dX5_monthOf_32 : decode cX5_monthOf 32 = .ok (.aload_n 0, 1) := by decide +kernel
theorem dX5_monthOf_33 : decode cX5_monthOf 33 = .ok (.getfield 7, 3) := by decide +kernel
theorem dX5_monthOf_36 : decode cX5_monthOf 36 = .ok (.iconst 2, 1) := by decide +kernel
theorem dX5_monthOf_37 : decode cX5_monthOf 37 = .ok (.iload_n 1, 1) := by decide +kernel
theorem dX5_monthOf_38 : decode cX5_monthOf 38 = .ok (.iadd, 1) := by decide +kernel
theorem dX5_monthOf_39 : decode cX5_monthOf 39 = .ok (.iaload, 1) := by decide +kernel
theorem dX5_monthOf_40 : decode cX5_monthOf 40 = .ok (.iadd, 1) := by decide +kernel
theorem dX5_monthOf_41 : decode cX5_monthOf 41 = .ok (.goto 22, 3) := by decide +kernel
theorem dX5_monthOf_44 : decode cX5_monthOf 44 = .ok (.aload_n 0, 1) := by decide +kernel
theorem dX5_monthOf_45 : decode cX5_monthOf 45 = .ok (.getfield 7, 3) := by decide +kernel
theorem dX5_monthOf_48 : decode cX5_monthOf 48 = .ok (.iload_n 2, 1) := by decide +kernel
theorem dX5_monthOf_49 : decode cX5_monthOf 49 = .ok (.iconst 1, 1) := by decide +kernel
theorem dX5_monthOf_50 : decode cX5_monthOf 50 = .ok (.if_icmp .ne 8, 3) := by decide +kernel
theorem dX5_monthOf_53 : decode cX5_monthOf 53 = .ok (.bipush 14, 2) := by decide +kernel
theorem dX5_monthOf_55 : decode cX5_monthOf 55 = .ok (.goto 5, 3) := by decide +kernel
theorem dX5_monthOf_58 : decode cX5_monthOf 58 = .ok (.bipush 26, 2) := by decide +kernel
theorem dX5_monthOf_60 : decode cX5_monthOf 60 = .ok (.iload_n 1, 1) := by decide +kernel
theorem dX5_monthOf_61 : decode cX5_monthOf 61 = .ok (.iadd, 1) := by decide +kernel
theorem dX5_monthOf_62 : decode cX5_monthOf 62 = .ok (.iaload, 1) := by decide +kernel
theorem dX5_monthOf_63 : decode cX5_monthOf 63 = .ok (.ireturn, 1) := by decide +kernel
theorem dX5_ofYear_0 : decode cX5_ofYear 0 = .ok (.aload_n 0, 1) := by decide +kernel
theorem dX5_ofYear_1 : decode cX5_ofYear 1 = .ok (.getfield 7, 3) := by decide +kernel
theorem dX5_ofYear_4 : decode cX5_ofYear 4 = .ok (.iconst 0, 1) := by decide +kernel
theorem dX5_ofYear_5 : decode cX5_ofYear 5 = .ok (.iaload, 1) := by decide +kernel
theorem dX5_ofYear_6 : decode cX5_ofYear 6 = .ok (.bipush 12, 2) := by decide +kernel
theorem dX5_ofYear_8 : decode cX5_ofYear 8 = .ok (.irem, 1) := by decide +kernel
theorem dX5_ofYear_9 : decode cX5_ofYear 9 = .ok (.ireturn, 1) := by decide +kernel
theorem dX5_now_0 : decode cX5_now 0 = .ok (.iload_n 1, 1) := by decide +kernel
theorem dX5_now_1 : decode cX5_now 1 = .ok (.tableswitch 85 0 5 #[39, 46, 51, 66, 73, 80], 39) := by decide +kernel
theorem dX5_now_40 : decode cX5_now 40 = .ok (.aload_n 0, 1) := by decide +kernel
theorem dX5_now_41 : decode cX5_now 41 = .ok (.getfield 7, 3) := by decide +kernel
theorem dX5_now_44 : decode cX5_now 44 = .ok (.iconst 0, 1) := by decide +kernel
theorem dX5_now_45 : decode cX5_now 45 = .ok (.iaload, 1) := by decide +kernel
theorem dX5_now_46 : decode cX5_now 46 = .ok (.ireturn, 1) := by decide +kernel
theorem dX5_now_47 : decode cX5_now 47 = .ok (.aload_n 0, 1) := by decide +kernel
theorem dX5_now_48 : decode cX5_now 48 = .ok (.invokevirtual 83, 3) := by decide +kernel
theorem dX5_now_51 : decode cX5_now 51 = .ok (.ireturn, 1) := by decide +kernel
theorem dX5_now_52 : decode cX5_now 52 = .ok (.bipush 100, 2) := by decide +kernel
theorem dX5_now_54 : decode cX5_now 54 = .ok (.aload_n 0, 1) := by decide +kernel
theorem dX5_now_55 : decode cX5_now 55 = .ok (.getfield 7, 3) := by decide +kernel
theorem dX5_now_58 : decode cX5_now 58 = .ok (.iconst 2, 1) := by decide +kernel
theorem dX5_now_59 : decode cX5_now 59 = .ok (.aload_n 0, 1) := by decide +kernel
theorem dX5_now_60 : decode cX5_now 60 = .ok (.invokevirtual 83, 3) := by decide +kernel
theorem dX5_now_63 : decode cX5_now 63 = .ok (.iadd, 1) := by decide +kernel
theorem dX5_now_64 : decode cX5_now 64 = .ok (.iaload, 1) := by decide +kernel
theorem dX5_now_65 : decode cX5_now 65 = .ok (.iadd, 1) := by decide +kernel
theorem dX5_now_66 : decode cX5_now 66 = .ok (.ireturn, 1) := by decide +kernel
theorem dX5_now_67 : decode cX5_now 67 = .ok (.aload_n 0, 1) := by decide +kernel
theorem dX5_now_68 : decode cX5_now 68 = .ok (.bipush 14, 2) := by decide +kernel
theorem dX5_now_70 : decode cX5_now 70 = .ok (.invokevirtual 60, 3) := by decide +kernel
theorem dX5_now_73 : decode cX5_now 73 = .ok (.ireturn, 1) := by decide +kernel
theorem dX5_now_74 : decode cX5_now 74 = .ok (.aload_n 0, 1) := by decide +kernel
theorem dX5_now_75 : decode cX5_now 75 = .ok (.bipush 26, 2) := by decide +kernel
theorem dX5_now_77 : decode cX5_now 77 = .ok (.invokevirtual 60, 3) := by decide +kernel
theorem dX5_now_80 : decode cX5_now 80 = .ok (.ireturn, 1) := by decide +kernel
theorem dX5_now_81 : decode cX5_now 81 = .ok (.aload_n 0, 1) := by decide +kernel
theorem dX5_now_82 : decode cX5_now 82 = .ok (.invokevirtual 87, 3) := by decide +kernel
theorem dX5_now_85 : decode cX5_now 85 = .ok (.ireturn, 1) := by decide +kernel
theorem dX5_now_86 : decode cX5_now 86 = .ok (.aload_n 0, 1) := by decide +kernel
theorem dX5_now_87 : decode cX5_now 87 = .ok (.ldc 41, 2) := by decide +kernel
theorem dX5_now_89 : decode cX5_now 89 = .ok (.invokevirtual 78, 3) := by decide +kernel
theorem dX5_now_92 : decode cX5_now 92 = .ok (.ireturn, 1) := by decide +kernel
theorem dX5_growsIn_0 : decode cX5_growsIn 0 = .ok (.iload_n 2, 1) := by decide +kernel
theorem dX5_growsIn_1 : decode cX5_growsIn 1 = .ok (.ifCond .ge 14, 3) := by decide +kernel
theorem dX5_growsIn_4 : decode cX5_growsIn 4 = .ok (.bipush 10, 2) := by decide +kernel
theorem dX5_growsIn_6 : decode cX5_growsIn 6 = .ok (.iconst 0, 1) := by decide +kernel
theorem dX5_growsIn_7 : decode cX5_growsIn 7 = .ok (.iload_n 2, 1) := by decide +kernel
theorem dX5_growsIn_8 : decode cX5_growsIn 8 = .ok (.isub, 1) := by decide +kernel
theorem dX5_growsIn_9 : decode cX5_growsIn 9 = .ok (.iconst 2, 1) := by decide +kernel
theorem dX5_growsIn_10 : decode cX5_growsIn 10 = .ok (.idiv, 1) := by decide +kernel
theorem dX5_growsIn_11 : decode cX5_growsIn 11 = .ok (.iadd, 1) := by decide +kernel
theorem dX5_growsIn_12 : decode cX5_growsIn 12 = .ok (.goto 5, 3) := by decide +kernel
theorem dX5_growsIn_15 : decode cX5_growsIn 15 = .ok (.bipush 10, 2) := by decide +kernel
theorem dX5_growsIn_17 : decode cX5_growsIn 17 = .ok (.istore_n 3, 1) := by decide +kernel
theorem dX5_growsIn_18 : decode cX5_growsIn 18 = .ok (.aload_n 0, 1) := by decide +kernel
theorem dX5_growsIn_19 : decode cX5_growsIn 19 = .ok (.iload_n 1, 1) := by decide +kernel
theorem dX5_growsIn_20 : decode cX5_growsIn 20 = .ok (.iconst 0, 1) := by decide +kernel
theorem dX5_growsIn_21 : decode cX5_growsIn 21 = .ok (.invokevirtual 90, 3) := by decide +kernel
theorem dX5_growsIn_24 : decode cX5_growsIn 24 = .ok (.tableswitch 68 1 5 #[36, 40, 44, 47, 61], 36) := by decide +kernel
theorem dX5_growsIn_60 : decode cX5_growsIn 60 = .ok (.iload_n 3, 1) := by decide +kernel
theorem dX5_growsIn_61 : decode cX5_growsIn 61 = .ok (.iconst 4, 1) := by decide +kernel
theorem dX5_growsIn_62 : decode cX5_growsIn 62 = .ok (.iadd, 1) := by decide +kernel
theorem dX5_growsIn_63 : decode cX5_growsIn 63 = .ok (.ireturn, 1) := by decide +kernel
theorem dX5_growsIn_64 : decode cX5_growsIn 64 = .ok (.iload_n 3, 1) := by decide +kernel
theorem dX5_growsIn_65 : decode cX5_growsIn 65 = .ok (.iconst 2, 1) := by decide +kernel
theorem dX5_growsIn_66 : decode cX5_growsIn 66 = .ok (.idiv, 1) := by decide +kernel
theorem dX5_growsIn_67 : decode cX5_growsIn 67 = .ok (.ireturn, 1) := by decide +kernel
theorem dX5_growsIn_68 : decode cX5_growsIn 68 = .ok (.bipush 12, 2) := by decide +kernel
theorem dX5_growsIn_70 : decode cX5_growsIn 70 = .ok (.ireturn, 1) := by decide +kernel
theorem dX5_growsIn_71 : decode cX5_growsIn 71 = .ok (.iload_n 2, 1) := by decide +kernel
theorem dX5_growsIn_72 : decode cX5_growsIn 72 = .ok (.bipush 10, 2) := by decide +kernel
theorem dX5_growsIn_74 : decode cX5_growsIn 74 = .ok (.if_icmp .le 7, 3) := by decide +kernel
theorem dX5_growsIn_77 : decode cX5_growsIn 77 = .ok (.iconst 0, 1) := by decide +kernel
theorem dX5_growsIn_78 : decode cX5_growsIn 78 = .ok (.goto 6, 3) := by decide +kernel
theorem dX5_growsIn_81 : decode cX5_growsIn 81 = .ok (.iload_n 3, 1) := by decide +kernel
theorem dX5_growsIn_82 : decode cX5_growsIn 82 = .ok (.iconst 4, 1) := by decide +kernel
theorem dX5_growsIn_83 : decode cX5_growsIn 83 = .ok (.iadd, 1) := by decide +kernel
theorem dX5_growsIn_84 : decode cX5_growsIn 84 = .ok (.ireturn, 1) := by decide +kernel
theorem dX5_growsIn_85 : decode cX5_growsIn 85 = .ok (.iload_n 3, 1) := by decide +kernel
theorem dX5_growsIn_86 : decode cX5_growsIn 86 = .ok (.iconst 2, 1) := by decide +kernel
theorem dX5_growsIn_87 : decode cX5_growsIn 87 = .ok (.idiv, 1) := by decide +kernel
theorem dX5_growsIn_88 : decode cX5_growsIn 88 = .ok (.bipush 6, 2) := by decide +kernel
theorem dX5_growsIn_90 : decode cX5_growsIn 90 = .ok (.iadd, 1) := by decide +kernel
theorem dX5_growsIn_91 : decode cX5_growsIn 91 = .ok (.ireturn, 1) := by decide +kernel
theorem dX5_growsIn_92 : decode cX5_growsIn 92 = .ok (.iload_n 3, 1) := by decide +kernel
theorem dX5_growsIn_93 : decode cX5_growsIn 93 = .ok (.ireturn, 1) := by decide +kernel
theorem dX5_losesOf_0 : decode cX5_losesOf 0 = .ok (.aload_n 0, 1) := by decide +kernel
theorem dX5_losesOf_1 : decode cX5_losesOf 1 = .ok (.iload_n 1, 1) := by decide +kernel
theorem dX5_losesOf_2 : decode cX5_losesOf 2 = .ok (.iconst 1, 1) := by decide +kernel
theorem dX5_losesOf_3 : decode cX5_losesOf 3 = .ok (.invokevirtual 90, 3) := by decide +kernel
theorem dX5_losesOf_6 : decode cX5_losesOf 6 = .ok (.bipush 10, 2) := by decide +kernel
theorem dX5_losesOf_8 : decode cX5_losesOf 8 = .ok (.idiv, 1) := by decide +kernel
theorem dX5_losesOf_9 : decode cX5_losesOf 9 = .ok (.istore_n 2, 1) := by decide +kernel
theorem dX5_losesOf_10 : decode cX5_losesOf 10 = .ok (.aload_n 0, 1) := by decide +kernel
theorem dX5_losesOf_11 : decode cX5_losesOf 11 = .ok (.iload_n 1, 1) := by decide +kernel
theorem dX5_losesOf_12 : decode cX5_losesOf 12 = .ok (.iconst 0, 1) := by decide +kernel
theorem dX5_losesOf_13 : decode cX5_losesOf 13 = .ok (.invokevirtual 90, 3) := by decide +kernel
theorem dX5_losesOf_16 : decode cX5_losesOf 16 = .ok (.tableswitch 59 1 5 #[36, 38, 59, 42, 44], 36) := by decide +kernel
theorem dX5_losesOf_52 : decode cX5_losesOf 52 = .ok (.iconst 0, 1) := by decide +kernel
theorem dX5_losesOf_53 : decode cX5_losesOf 53 = .ok (.ireturn, 1) := by decide +kernel
theorem dX5_losesOf_54 : decode cX5_losesOf 54 = .ok (.iconst 2, 1) := by decide +kernel
theorem dX5_losesOf_55 : decode cX5_losesOf 55 = .ok (.iload_n 2, 1) := by decide +kernel
theorem dX5_losesOf_56 : decode cX5_losesOf 56 = .ok (.imul, 1) := by decide +kernel
theorem dX5_losesOf_57 : decode cX5_losesOf 57 = .ok (.ireturn, 1) := by decide +kernel
theorem dX5_losesOf_58 : decode cX5_losesOf 58 = .ok (.iconst 1, 1) := by decide +kernel
theorem dX5_losesOf_59 : decode cX5_losesOf 59 = .ok (.ireturn, 1) := by decide +kernel
theorem dX5_losesOf_60 : decode cX5_losesOf 60 = .ok (.iload_n 2, 1) := by decide +kernel
theorem dX5_losesOf_61 : decode cX5_losesOf 61 = .ok (.iconst 1, 1) := by decide +kernel
theorem dX5_losesOf_62 : decode cX5_losesOf 62 = .ok (.if_icmp .le 11, 3) := by decide +kernel
theorem dX5_losesOf_65 : decode cX5_losesOf 65 = .ok (.iconst 2, 1) := by decide +kernel
theorem dX5_losesOf_66 : decode cX5_losesOf 66 = .ok (.iload_n 2, 1) := by decide +kernel
theorem dX5_losesOf_67 : decode cX5_losesOf 67 = .ok (.imul, 1) := by decide +kernel
theorem dX5_losesOf_68 : decode cX5_losesOf 68 = .ok (.iconst 2, 1) := by decide +kernel
theorem dX5_losesOf_69 : decode cX5_losesOf 69 = .ok (.isub, 1) := by decide +kernel
theorem dX5_losesOf_70 : decode cX5_losesOf 70 = .ok (.goto 4, 3) := by decide +kernel
theorem dX5_losesOf_73 : decode cX5_losesOf 73 = .ok (.iconst 0, 1) := by decide +kernel
theorem dX5_losesOf_74 : decode cX5_losesOf 74 = .ok (.ireturn, 1) := by decide +kernel
theorem dX5_losesOf_75 : decode cX5_losesOf 75 = .ok (.iload_n 2, 1) := by decide +kernel
theorem dX5_losesOf_76 : decode cX5_losesOf 76 = .ok (.ireturn, 1) := by decide +kernel
theorem dX5_calmsOf_0 : decode cX5_calmsOf 0 = .ok (.aload_n 0, 1) := by decide +kernel
theorem dX5_calmsOf_1 : decode cX5_calmsOf 1 = .ok (.iload_n 1, 1) := by decide +kernel
theorem dX5_calmsOf_2 : decode cX5_calmsOf 2 = .ok (.iconst 0, 1) := by decide +kernel
theorem dX5_calmsOf_3 : decode cX5_calmsOf 3 = .ok (.invokevirtual 90, 3) := by decide +kernel
theorem dX5_calmsOf_6 : decode cX5_calmsOf 6 = .ok (.tableswitch 42 1 5 #[34, 37, 42, 34, 39], 34) := by decide +kernel
theorem dX5_calmsOf_40 : decode cX5_calmsOf 40 = .ok (.bipush 20, 2) := by decide +kernel
theorem dX5_calmsOf_42 : decode cX5_calmsOf 42 = .ok (.ireturn, 1) := by decide +kernel
theorem dX5_calmsOf_43 : decode cX5_calmsOf 43 = .ok (.iconst 5, 1) := by decide +kernel
theorem dX5_calmsOf_44 : decode cX5_calmsOf 44 = .ok (.ireturn, 1) := by decide +kernel
theorem dX5_calmsOf_45 : decode cX5_calmsOf 45 = .ok (.bipush 15, 2) := by decide +kernel
theorem dX5_calmsOf_47 : decode cX5_calmsOf 47 = .ok (.ireturn, 1) := by decide +kernel
theorem dX5_calmsOf_48 : decode cX5_calmsOf 48 = .ok (.bipush 10, 2) := by decide +kernel
theorem dX5_calmsOf_50 : decode cX5_calmsOf 50 = .ok (.ireturn, 1) := by decide +kernel
theorem dX5_burrsIn_0 : decode cX5_burrsIn 0 = .ok (.iload_n 2, 1) := by decide +kernel
theorem dX5_burrsIn_1 : decode cX5_burrsIn 1 = .ok (.bipush (-8), 2) := by decide +kernel
theorem dX5_burrsIn_3 : decode cX5_burrsIn 3 = .ok (.if_icmp .ge 7, 3) := by decide +kernel
theorem dX5_burrsIn_6 : decode cX5_burrsIn 6 = .ok (.iconst 1, 1) := by decide +kernel
theorem dX5_burrsIn_7 : decode cX5_burrsIn 7 = .ok (.goto 4, 3) := by decide +kernel
theorem dX5_burrsIn_10 : decode cX5_burrsIn 10 = .ok (.iconst 0, 1) := by decide +kernel
theorem dX5_burrsIn_11 : decode cX5_burrsIn 11 = .ok (.istore_n 3, 1) := by decide +kernel
theorem dX5_burrsIn_12 : decode cX5_burrsIn 12 = .ok (.aload_n 0, 1) := by decide +kernel
theorem dX5_burrsIn_13 : decode cX5_burrsIn 13 = .ok (.iload_n 1, 1) := by decide +kernel
theorem dX5_burrsIn_14 : decode cX5_burrsIn 14 = .ok (.iconst 0, 1) := by decide +kernel
theorem dX5_burrsIn_15 : decode cX5_burrsIn 15 = .ok (.invokevirtual 90, 3) := by decide +kernel
theorem dX5_burrsIn_18 : decode cX5_burrsIn 18 = .ok (.tableswitch 44 1 5 #[34, 38, 44, 40, 38], 34) := by decide +kernel
theorem dX5_burrsIn_52 : decode cX5_burrsIn 52 = .ok (.iload_n 3, 1) := by decide +kernel
theorem dX5_burrsIn_53 : decode cX5_burrsIn 53 = .ok (.iconst 1, 1) := by decide +kernel
theorem dX5_burrsIn_54 : decode cX5_burrsIn 54 = .ok (.iadd, 1) := by decide +kernel
theorem dX5_burrsIn_55 : decode cX5_burrsIn 55 = .ok (.ireturn, 1) := by decide +kernel
theorem dX5_burrsIn_56 : decode cX5_burrsIn 56 = .ok (.iconst 0, 1) := by decide +kernel
theorem dX5_burrsIn_57 : decode cX5_burrsIn 57 = .ok (.ireturn, 1) := by decide +kernel
theorem dX5_burrsIn_58 : decode cX5_burrsIn 58 = .ok (.iload_n 3, 1) := by decide +kernel
theorem dX5_burrsIn_59 : decode cX5_burrsIn 59 = .ok (.iconst 3, 1) := by decide +kernel
theorem dX5_burrsIn_60 : decode cX5_burrsIn 60 = .ok (.iadd, 1) := by decide +kernel
theorem dX5_burrsIn_61 : decode cX5_burrsIn 61 = .ok (.ireturn, 1) := by decide +kernel
theorem dX5_burrsIn_62 : decode cX5_burrsIn 62 = .ok (.iload_n 3, 1) := by decide +kernel
theorem dX5_burrsIn_63 : decode cX5_burrsIn 63 = .ok (.ireturn, 1) := by decide +kernel
theorem dX5_adds_0 : decode cX5_adds 0 = .ok (.aload_n 0, 1) := by decide +kernel
theorem dX5_adds_1 : decode cX5_adds 1 = .ok (.getfield 7, 3) := by decide +kernel
theorem dX5_adds_4 : decode cX5_adds 4 = .ok (.iconst 1, 1) := by decide +kernel
theorem dX5_adds_5 : decode cX5_adds 5 = .ok (.iaload, 1) := by decide +kernel
theorem dX5_adds_6 : decode cX5_adds 6 = .ok (.istore_n 2, 1) := by decide +kernel
theorem dX5_adds_7 : decode cX5_adds 7 = .ok (.aload_n 0, 1) := by decide +kernel
theorem dX5_adds_8 : decode cX5_adds 8 = .ok (.getfield 7, 3) := by decide +kernel
theorem dX5_adds_11 : decode cX5_adds 11 = .ok (.iconst 1, 1) := by decide +kernel
theorem dX5_adds_12 : decode cX5_adds 12 = .ok (.dup2, 1) := by decide +kernel
theorem dX5_adds_13 : decode cX5_adds 13 = .ok (.iaload, 1) := by decide +kernel
theorem dX5_adds_14 : decode cX5_adds 14 = .ok (.iconst 1, 1) := by decide +kernel
theorem dX5_adds_15 : decode cX5_adds 15 = .ok (.iadd, 1) := by decide +kernel
theorem dX5_adds_16 : decode cX5_adds 16 = .ok (.iastore, 1) := by decide +kernel
theorem dX5_adds_17 : decode cX5_adds 17 = .ok (.iconst 0, 1) := by decide +kernel
theorem dX5_adds_18 : decode cX5_adds 18 = .ok (.istore_n 3, 1) := by decide +kernel
theorem dX5_adds_19 : decode cX5_adds 19 = .ok (.iload_n 3, 1) := by decide +kernel
theorem dX5_adds_20 : decode cX5_adds 20 = .ok (.bipush 14, 2) := by decide +kernel
theorem dX5_adds_22 : decode cX5_adds 22 = .ok (.if_icmp .ge 20, 3) := by decide +kernel
theorem dX5_adds_25 : decode cX5_adds 25 = .ok (.aload_n 0, 1) := by decide +kernel
theorem dX5_adds_26 : decode cX5_adds 26 = .ok (.getfield 7, 3) := by decide +kernel
theorem dX5_adds_29 : decode cX5_adds 29 = .ok (.iload_n 2, 1) := by decide +kernel
theorem dX5_adds_30 : decode cX5_adds 30 = .ok (.iload_n 3, 1) := by decide +kernel
theorem dX5_adds_31 : decode cX5_adds 31 = .ok (.invokestatic 42, 3) := by decide +kernel
theorem dX5_adds_34 : decode cX5_adds 34 = .ok (.iconst 0, 1) := by decide +kernel
theorem dX5_adds_35 : decode cX5_adds 35 = .ok (.iastore, 1) := by decide +kernel
theorem dX5_adds_36 : decode cX5_adds 36 = .ok (.iinc 3 1, 3) := by decide +kernel
theorem dX5_adds_39 : decode cX5_adds 39 = .ok (.goto (-20), 3) := by decide +kernel
theorem dX5_adds_42 : decode cX5_adds 42 = .ok (.aload_n 0, 1) := by decide +kernel
theorem dX5_adds_43 : decode cX5_adds 43 = .ok (.getfield 7, 3) := by decide +kernel
theorem dX5_adds_46 : decode cX5_adds 46 = .ok (.iload_n 2, 1) := by decide +kernel
theorem dX5_adds_47 : decode cX5_adds 47 = .ok (.iconst 0, 1) := by decide +kernel
theorem dX5_adds_48 : decode cX5_adds 48 = .ok (.invokestatic 42, 3) := by decide +kernel
theorem dX5_adds_51 : decode cX5_adds 51 = .ok (.iload_n 1, 1) := by decide +kernel
theorem dX5_adds_52 : decode cX5_adds 52 = .ok (.iastore, 1) := by decide +kernel
theorem dX5_adds_53 : decode cX5_adds 53 = .ok (.iload_n 2, 1) := by decide +kernel
theorem dX5_adds_54 : decode cX5_adds 54 = .ok (.ireturn, 1) := by decide +kernel
theorem dX5_ewe_0 : decode cX5_ewe 0 = .ok (.iload_n 1, 1) := by decide +kernel
theorem dX5_ewe_1 : decode cX5_ewe 1 = .ok (.invokestatic 93, 3) := by decide +kernel
theorem dX5_ewe_4 : decode cX5_ewe 4 = .ok (.ifCond .ne 10, 3) := by decide +kernel
theorem dX5_ewe_7 : decode cX5_ewe 7 = .ok (.aload_n 0, 1) := by decide +kernel
theorem dX5_ewe_8 : decode cX5_ewe 8 = .ok (.ldc 41, 2) := by decide +kernel
theorem dX5_ewe_10 : decode cX5_ewe 10 = .ok (.invokevirtual 78, 3) := by decide +kernel
theorem dX5_ewe_13 : decode cX5_ewe 13 = .ok (.ireturn, 1) := by decide +kernel
theorem dX5_ewe_14 : decode cX5_ewe 14 = .ok (.aload_n 0, 1) := by decide +kernel
theorem dX5_ewe_15 : decode cX5_ewe 15 = .ok (.getfield 7, 3) := by decide +kernel
theorem dX5_ewe_18 : decode cX5_ewe 18 = .ok (.iconst 1, 1) := by decide +kernel
theorem dX5_ewe_19 : decode cX5_ewe 19 = .ok (.iaload, 1) := by decide +kernel
theorem dX5_ewe_20 : decode cX5_ewe 20 = .ok (.bipush 8, 2) := by decide +kernel
theorem dX5_ewe_22 : decode cX5_ewe 22 = .ok (.if_icmp .ne 12, 3) := by decide +kernel
theorem dX5_ewe_25 : decode cX5_ewe 25 = .ok (.aload_n 0, 1) := by decide +kernel
theorem dX5_ewe_26 : decode cX5_ewe 26 = .ok (.ldc 96, 2) := by decide +kernel
theorem dX5_ewe_28 : decode cX5_ewe 28 = .ok (.invokevirtual 78, 3) := by decide +kernel
theorem dX5_ewe_31 : decode cX5_ewe 31 = .ok (.goto 8, 3) := by decide +kernel
theorem dX5_ewe_34 : decode cX5_ewe 34 = .ok (.aload_n 0, 1) := by decide +kernel
theorem dX5_ewe_35 : decode cX5_ewe 35 = .ok (.iload_n 1, 1) := by decide +kernel
theorem dX5_ewe_36 : decode cX5_ewe 36 = .ok (.invokevirtual 97, 3) := by decide +kernel
theorem dX5_ewe_39 : decode cX5_ewe 39 = .ok (.ireturn, 1) := by decide +kernel
theorem dX5_of_0 : decode cX5_of 0 = .ok (.aload_n 0, 1) := by decide +kernel
theorem dX5_of_1 : decode cX5_of 1 = .ok (.iload_n 1, 1) := by decide +kernel
theorem dX5_of_2 : decode cX5_of 2 = .ok (.invokevirtual 100, 3) := by decide +kernel
theorem dX5_of_5 : decode cX5_of 5 = .ok (.ifCond .eq 15, 3) := by decide +kernel
theorem dX5_of_8 : decode cX5_of 8 = .ok (.iload_n 2, 1) := by decide +kernel
theorem dX5_of_9 : decode cX5_of 9 = .ok (.i2l, 1) := by decide +kernel
theorem dX5_of_10 : decode cX5_of 10 = .ok (.lconst 0, 1) := by decide +kernel
theorem dX5_of_11 : decode cX5_of 11 = .ok (.ldc2_w 52, 3) := by decide +kernel
theorem dX5_of_14 : decode cX5_of 14 = .ok (.invokestatic 46, 3) := by decide +kernel
theorem dX5_of_17 : decode cX5_of 17 = .ok (.ifCond .ne 10, 3) := by decide +kernel
theorem dX5_of_20 : decode cX5_of 20 = .ok (.aload_n 0, 1) := by decide +kernel
theorem dX5_of_21 : decode cX5_of 21 = .ok (.ldc 41, 2) := by decide +kernel
theorem dX5_of_23 : decode cX5_of 23 = .ok (.invokevirtual 78, 3) := by decide +kernel
theorem dX5_of_26 : decode cX5_of 26 = .ok (.ireturn, 1) := by decide +kernel
theorem dX5_of_27 : decode cX5_of 27 = .ok (.iload_n 2, 1) := by decide +kernel
theorem dX5_of_28 : decode cX5_of 28 = .ok (.iconst 1, 1) := by decide +kernel
theorem dX5_of_29 : decode cX5_of 29 = .ok (.if_icmp .gt 12, 3) := by decide +kernel
theorem dX5_of_32 : decode cX5_of 32 = .ok (.aload_n 0, 1) := by decide +kernel
theorem dX5_of_33 : decode cX5_of 33 = .ok (.iload_n 1, 1) := by decide +kernel
theorem dX5_of_34 : decode cX5_of 34 = .ok (.iload_n 2, 1) := by decide +kernel
theorem dX5_of_35 : decode cX5_of 35 = .ok (.invokevirtual 90, 3) := by decide +kernel
theorem dX5_of_38 : decode cX5_of 38 = .ok (.goto 21, 3) := by decide +kernel
theorem dX5_of_41 : decode cX5_of 41 = .ok (.iload_n 2, 1) := by decide +kernel
theorem dX5_of_42 : decode cX5_of 42 = .ok (.iconst 2, 1) := by decide +kernel
theorem dX5_of_43 : decode cX5_of 43 = .ok (.if_icmp .ne 11, 3) := by decide +kernel
theorem dX5_of_46 : decode cX5_of 46 = .ok (.aload_n 0, 1) := by decide +kernel
theorem dX5_of_47 : decode cX5_of 47 = .ok (.iload_n 1, 1) := by decide +kernel
theorem dX5_of_48 : decode cX5_of 48 = .ok (.invokevirtual 64, 3) := by decide +kernel
theorem dX5_of_51 : decode cX5_of 51 = .ok (.goto 8, 3) := by decide +kernel
theorem dX5_of_54 : decode cX5_of 54 = .ok (.aload_n 0, 1) := by decide +kernel
theorem dX5_of_55 : decode cX5_of 55 = .ok (.iload_n 1, 1) := by decide +kernel
theorem dX5_of_56 : decode cX5_of 56 = .ok (.invokevirtual 103, 3) := by decide +kernel
theorem dX5_of_59 : decode cX5_of 59 = .ok (.ireturn, 1) := by decide +kernel
theorem dX5_fleece_0 : decode cX5_fleece 0 = .ok (.aload_n 0, 1) := by decide +kernel
theorem dX5_fleece_1 : decode cX5_fleece 1 = .ok (.iload_n 1, 1) := by decide +kernel
theorem dX5_fleece_2 : decode cX5_fleece 2 = .ok (.invokevirtual 100, 3) := by decide +kernel
theorem dX5_fleece_5 : decode cX5_fleece 5 = .ok (.ifCond .eq 21, 3) := by decide +kernel
theorem dX5_fleece_8 : decode cX5_fleece 8 = .ok (.iload_n 2, 1) := by decide +kernel
theorem dX5_fleece_9 : decode cX5_fleece 9 = .ok (.invokestatic 67, 3) := by decide +kernel
theorem dX5_fleece_12 : decode cX5_fleece 12 = .ok (.ifCond .eq 14, 3) := by decide +kernel
theorem dX5_fleece_15 : decode cX5_fleece 15 = .ok (.aload_n 0, 1) := by decide +kernel
theorem dX5_fleece_16 : decode cX5_fleece 16 = .ok (.iload_n 1, 1) := by decide +kernel
theorem dX5_fleece_17 : decode cX5_fleece 17 = .ok (.iconst 2, 1) := by decide +kernel
theorem dX5_fleece_18 : decode cX5_fleece 18 = .ok (.iload_n 2, 1) := by decide +kernel
theorem dX5_fleece_19 : decode cX5_fleece 19 = .ok (.iadd, 1) := by decide +kernel
theorem dX5_fleece_20 : decode cX5_fleece 20 = .ok (.invokevirtual 90, 3) := by decide +kernel
theorem dX5_fleece_23 : decode cX5_fleece 23 = .ok (.goto 9, 3) := by decide +kernel
theorem dX5_fleece_26 : decode cX5_fleece 26 = .ok (.aload_n 0, 1) := by decide +kernel
theorem dX5_fleece_27 : decode cX5_fleece 27 = .ok (.ldc 41, 2) := by decide +kernel
theorem dX5_fleece_29 : decode cX5_fleece 29 = .ok (.invokevirtual 78, 3) := by decide +kernel
theorem dX5_fleece_32 : decode cX5_fleece 32 = .ok (.ireturn, 1) := by decide +kernel
theorem dX5_can_0 : decode cX5_can 0 = .ok (.aload_n 0, 1) := by decide +kernel
theorem dX5_can_1 : decode cX5_can 1 = .ok (.iload_n 1, 1) := by decide +kernel
theorem dX5_can_2 : decode cX5_can 2 = .ok (.invokevirtual 100, 3) := by decide +kernel
theorem dX5_can_5 : decode cX5_can 5 = .ok (.ifCond .eq 23, 3) := by decide +kernel
theorem dX5_can_8 : decode cX5_can 8 = .ok (.iload_n 2, 1) := by decide +kernel
theorem dX5_can_9 : decode cX5_can 9 = .ok (.i2l, 1) := by decide +kernel
theorem dX5_can_10 : decode cX5_can 10 = .ok (.lconst 0, 1) := by decide +kernel
theorem dX5_can_11 : decode cX5_can 11 = .ok (.ldc2_w 81, 3) := by decide +kernel
theorem dX5_can_14 : decode cX5_can 14 = .ok (.invokestatic 46, 3) := by decide +kernel
theorem dX5_can_17 : decode cX5_can 17 = .ok (.ifCond .eq 11, 3) := by decide +kernel
theorem dX5_can_20 : decode cX5_can 20 = .ok (.iload_n 3, 1) := by decide +kernel
theorem dX5_can_21 : decode cX5_can 21 = .ok (.i2l, 1) := by decide +kernel
theorem dX5_can_22 : decode cX5_can 22 = .ok (.invokestatic 71, 3) := by decide +kernel
theorem dX5_can_25 : decode cX5_can 25 = .ok (.ifCond .ne 10, 3) := by decide +kernel
theorem dX5_can_28 : decode cX5_can 28 = .ok (.aload_n 0, 1) := by decide +kernel
theorem dX5_can_29 : decode cX5_can 29 = .ok (.ldc 41, 2) := by decide +kernel
theorem dX5_can_31 : decode cX5_can 31 = .ok (.invokevirtual 78, 3) := by decide +kernel
theorem dX5_can_34 : decode cX5_can 34 = .ok (.ireturn, 1) := by decide +kernel
theorem dX5_can_35 : decode cX5_can 35 = .ok (.iload_n 2, 1) := by decide +kernel
theorem dX5_can_36 : decode cX5_can 36 = .ok (.ifCond .ne 12, 3) := by decide +kernel
theorem dX5_can_39 : decode cX5_can 39 = .ok (.aload_n 0, 1) := by decide +kernel
theorem dX5_can_40 : decode cX5_can 40 = .ok (.iload_n 1, 1) := by decide +kernel
theorem dX5_can_41 : decode cX5_can 41 = .ok (.iload_n 3, 1) := by decide +kernel
theorem dX5_can_42 : decode cX5_can 42 = .ok (.invokevirtual 106, 3) := by decide +kernel
theorem dX5_can_45 : decode cX5_can 45 = .ok (.goto 22, 3) := by decide +kernel
theorem dX5_can_48 : decode cX5_can 48 = .ok (.iload_n 2, 1) := by decide +kernel
theorem dX5_can_49 : decode cX5_can 49 = .ok (.iconst 1, 1) := by decide +kernel
theorem dX5_can_50 : decode cX5_can 50 = .ok (.if_icmp .ne 11, 3) := by decide +kernel
theorem dX5_can_53 : decode cX5_can 53 = .ok (.aload_n 0, 1) := by decide +kernel
theorem dX5_can_54 : decode cX5_can 54 = .ok (.iload_n 1, 1) := by decide +kernel
theorem dX5_can_55 : decode cX5_can 55 = .ok (.invokevirtual 109, 3) := by decide +kernel
theorem dX5_can_58 : decode cX5_can 58 = .ok (.goto 9, 3) := by decide +kernel
theorem dX5_can_61 : decode cX5_can 61 = .ok (.aload_n 0, 1) := by decide +kernel
theorem dX5_can_62 : decode cX5_can 62 = .ok (.iload_n 1, 1) := by decide +kernel
theorem dX5_can_63 : decode cX5_can 63 = .ok (.iload_n 3, 1) := by decide +kernel
theorem dX5_can_64 : decode cX5_can 64 = .ok (.invokevirtual 112, 3) := by decide +kernel
theorem dX5_can_67 : decode cX5_can 67 = .ok (.ireturn, 1) := by decide +kernel
theorem dX5_scare_0 : decode cX5_scare 0 = .ok (.aload_n 0, 1) := by decide +kernel
theorem dX5_scare_1 : decode cX5_scare 1 = .ok (.iload_n 1, 1) := by decide +kernel
theorem dX5_scare_2 : decode cX5_scare 2 = .ok (.invokevirtual 100, 3) := by decide +kernel
theorem dX5_scare_5 : decode cX5_scare 5 = .ok (.ifCond .eq 28, 3) := by decide +kernel
theorem dX5_scare_8 : decode cX5_scare 8 = .ok (.iload_n 2, 1) := by decide +kernel
theorem dX5_scare_9 : decode cX5_scare 9 = .ok (.i2l, 1) := by decide +kernel
theorem dX5_scare_10 : decode cX5_scare 10 = .ok (.lconst 0, 1) := by decide +kernel
theorem dX5_scare_11 : decode cX5_scare 11 = .ok (.ldc2_w 115, 3) := by decide +kernel
theorem dX5_scare_14 : decode cX5_scare 14 = .ok (.invokestatic 46, 3) := by decide +kernel
theorem dX5_scare_17 : decode cX5_scare 17 = .ok (.ifCond .eq 16, 3) := by decide +kernel
theorem dX5_scare_20 : decode cX5_scare 20 = .ok (.aload_n 0, 1) := by decide +kernel
theorem dX5_scare_21 : decode cX5_scare 21 = .ok (.iload_n 1, 1) := by decide +kernel
theorem dX5_scare_22 : decode cX5_scare 22 = .ok (.iconst 1, 1) := by decide +kernel
theorem dX5_scare_23 : decode cX5_scare 23 = .ok (.invokestatic 42, 3) := by decide +kernel
theorem dX5_scare_26 : decode cX5_scare 26 = .ok (.iload_n 2, 1) := by decide +kernel
theorem dX5_scare_27 : decode cX5_scare 27 = .ok (.invokevirtual 75, 3) := by decide +kernel
theorem dX5_scare_30 : decode cX5_scare 30 = .ok (.goto 9, 3) := by decide +kernel
theorem dX5_scare_33 : decode cX5_scare 33 = .ok (.aload_n 0, 1) := by decide +kernel
theorem dX5_scare_34 : decode cX5_scare 34 = .ok (.ldc 41, 2) := by decide +kernel
theorem dX5_scare_36 : decode cX5_scare 36 = .ok (.invokevirtual 78, 3) := by decide +kernel
theorem dX5_scare_39 : decode cX5_scare 39 = .ok (.ireturn, 1) := by decide +kernel
theorem dX5_turn_0 : decode cX5_turn 0 = .ok (.aload_n 0, 1) := by decide +kernel
theorem dX5_turn_1 : decode cX5_turn 1 = .ok (.iload_n 1, 1) := by decide +kernel
theorem dX5_turn_2 : decode cX5_turn 2 = .ok (.invokevirtual 100, 3) := by decide +kernel
theorem dX5_turn_5 : decode cX5_turn 5 = .ok (.ifCond .eq 23, 3) := by decide +kernel
theorem dX5_turn_8 : decode cX5_turn 8 = .ok (.iload_n 2, 1) := by decide +kernel
theorem dX5_turn_9 : decode cX5_turn 9 = .ok (.invokestatic 93, 3) := by decide +kernel
theorem dX5_turn_12 : decode cX5_turn 12 = .ok (.ifCond .eq 16, 3) := by decide +kernel
theorem dX5_turn_15 : decode cX5_turn 15 = .ok (.aload_n 0, 1) := by decide +kernel
theorem dX5_turn_16 : decode cX5_turn 16 = .ok (.iload_n 1, 1) := by decide +kernel
theorem dX5_turn_17 : decode cX5_turn 17 = .ok (.iconst 0, 1) := by decide +kernel
theorem dX5_turn_18 : decode cX5_turn 18 = .ok (.invokestatic 42, 3) := by decide +kernel
theorem dX5_turn_21 : decode cX5_turn 21 = .ok (.iload_n 2, 1) := by decide +kernel
theorem dX5_turn_22 : decode cX5_turn 22 = .ok (.invokevirtual 75, 3) := by decide +kernel
theorem dX5_turn_25 : decode cX5_turn 25 = .ok (.goto 9, 3) := by decide +kernel
theorem dX5_turn_28 : decode cX5_turn 28 = .ok (.aload_n 0, 1) := by decide +kernel
theorem dX5_turn_29 : decode cX5_turn 29 = .ok (.ldc 41, 2) := by decide +kernel
theorem dX5_turn_31 : decode cX5_turn 31 = .ok (.invokevirtual 78, 3) := by decide +kernel
theorem dX5_turn_34 : decode cX5_turn 34 = .ok (.ireturn, 1) := by decide +kernel
theorem dX5_isUnder_0 : decode cX5_isUnder 0 = .ok (.iload_n 1, 1) := by decide +kernel
theorem dX5_isUnder_1 : decode cX5_isUnder 1 = .ok (.ifCond .eq 28, 3) := by decide +kernel
theorem dX5_isUnder_4 : decode cX5_isUnder 4 = .ok (.iload_n 0, 1) := by decide +kernel
theorem dX5_isUnder_5 : decode cX5_isUnder 5 = .ok (.iload_n 1, 1) := by decide +kernel
theorem dX5_isUnder_6 : decode cX5_isUnder 6 = .ok (.if_icmp .eq 23, 3) := by decide +kernel
theorem dX5_isUnder_9 : decode cX5_isUnder 9 = .ok (.iload_n 0, 1) := by decide +kernel
theorem dX5_isUnder_10 : decode cX5_isUnder 10 = .ok (.iconst 4, 1) := by decide +kernel
theorem dX5_isUnder_11 : decode cX5_isUnder 11 = .ok (.if_icmp .ne 8, 3) := by decide +kernel
theorem dX5_isUnder_14 : decode cX5_isUnder 14 = .ok (.iload_n 1, 1) := by decide +kernel
theorem dX5_isUnder_15 : decode cX5_isUnder 15 = .ok (.iconst 1, 1) := by decide +kernel
theorem dX5_isUnder_16 : decode cX5_isUnder 16 = .ok (.if_icmp .eq 13, 3) := by decide +kernel
theorem dX5_isUnder_19 : decode cX5_isUnder 19 = .ok (.iload_n 0, 1) := by decide +kernel
theorem dX5_isUnder_20 : decode cX5_isUnder 20 = .ok (.iconst 5, 1) := by decide +kernel
theorem dX5_isUnder_21 : decode cX5_isUnder 21 = .ok (.if_icmp .ne 12, 3) := by decide +kernel
theorem dX5_isUnder_24 : decode cX5_isUnder 24 = .ok (.iload_n 1, 1) := by decide +kernel
theorem dX5_isUnder_25 : decode cX5_isUnder 25 = .ok (.iconst 2, 1) := by decide +kernel
theorem dX5_isUnder_26 : decode cX5_isUnder 26 = .ok (.if_icmp .ne 7, 3) := by decide +kernel
theorem dX5_isUnder_29 : decode cX5_isUnder 29 = .ok (.iconst 1, 1) := by decide +kernel
theorem dX5_isUnder_30 : decode cX5_isUnder 30 = .ok (.goto 4, 3) := by decide +kernel
theorem dX5_isUnder_33 : decode cX5_isUnder 33 = .ok (.iconst 0, 1) := by decide +kernel
theorem dX5_isUnder_34 : decode cX5_isUnder 34 = .ok (.ireturn, 1) := by decide +kernel
theorem dX5_as_0 : decode cX5_as 0 = .ok (.aload_n 0, 1) := by decide +kernel
theorem dX5_as_1 : decode cX5_as 1 = .ok (.iload_n 1, 1) := by decide +kernel
theorem dX5_as_2 : decode cX5_as 2 = .ok (.invokevirtual 100, 3) := by decide +kernel
theorem dX5_as_5 : decode cX5_as 5 = .ok (.ifCond .eq 10, 3) := by decide +kernel
theorem dX5_as_8 : decode cX5_as 8 = .ok (.iload_n 2, 1) := by decide +kernel
theorem dX5_as_9 : decode cX5_as 9 = .ok (.invokestatic 93, 3) := by decide +kernel
theorem dX5_as_12 : decode cX5_as 12 = .ok (.ifCond .ne 10, 3) := by decide +kernel
theorem dX5_as_15 : decode cX5_as 15 = .ok (.aload_n 0, 1) := by decide +kernel
theorem dX5_as_16 : decode cX5_as 16 = .ok (.ldc 41, 2) := by decide +kernel
theorem dX5_as_18 : decode cX5_as 18 = .ok (.invokevirtual 78, 3) := by decide +kernel
theorem dX5_as_21 : decode cX5_as 21 = .ok (.ireturn, 1) := by decide +kernel
theorem dX5_as_22 : decode cX5_as 22 = .ok (.aload_n 0, 1) := by decide +kernel
theorem dX5_as_23 : decode cX5_as 23 = .ok (.iload_n 1, 1) := by decide +kernel
theorem dX5_as_24 : decode cX5_as 24 = .ok (.iconst 0, 1) := by decide +kernel
theorem dX5_as_25 : decode cX5_as 25 = .ok (.invokevirtual 90, 3) := by decide +kernel
theorem dX5_as_28 : decode cX5_as 28 = .ok (.iload_n 2, 1) := by decide +kernel
theorem dX5_as_29 : decode cX5_as 29 = .ok (.invokestatic 117, 3) := by decide +kernel
theorem dX5_as_32 : decode cX5_as 32 = .ok (.ifCond .eq 12, 3) := by decide +kernel
theorem dX5_as_35 : decode cX5_as 35 = .ok (.aload_n 0, 1) := by decide +kernel
theorem dX5_as_36 : decode cX5_as 36 = .ok (.iload_n 1, 1) := by decide +kernel
theorem dX5_as_37 : decode cX5_as 37 = .ok (.iconst 1, 1) := by decide +kernel
theorem dX5_as_38 : decode cX5_as 38 = .ok (.invokevirtual 90, 3) := by decide +kernel
theorem dX5_as_41 : decode cX5_as 41 = .ok (.goto 9, 3) := by decide +kernel
theorem dX5_as_44 : decode cX5_as 44 = .ok (.aload_n 0, 1) := by decide +kernel
theorem dX5_as_45 : decode cX5_as 45 = .ok (.ldc 121, 2) := by decide +kernel
theorem dX5_as_47 : decode cX5_as 47 = .ok (.invokevirtual 78, 3) := by decide +kernel
theorem dX5_as_50 : decode cX5_as 50 = .ok (.ireturn, 1) := by decide +kernel
theorem dX5_warmthOf_0 : decode cX5_warmthOf 0 = .ok (.iconst 0, 1) := by decide +kernel
theorem dX5_warmthOf_1 : decode cX5_warmthOf 1 = .ok (.istore_n 2, 1) := by decide +kernel
theorem dX5_warmthOf_2 : decode cX5_warmthOf 2 = .ok (.iconst 0, 1) := by decide +kernel
theorem dX5_warmthOf_3 : decode cX5_warmthOf 3 = .ok (.istore_n 3, 1) := by decide +kernel
theorem dX5_warmthOf_4 : decode cX5_warmthOf 4 = .ok (.iload_n 3, 1) := by decide +kernel
theorem dX5_warmthOf_5 : decode cX5_warmthOf 5 = .ok (.bipush 12, 2) := by decide +kernel
theorem dX5_warmthOf_7 : decode cX5_warmthOf 7 = .ok (.if_icmp .ge 62, 3) := by decide +kernel
theorem dX5_warmthOf_10 : decode cX5_warmthOf 10 = .ok (.aload_n 0, 1) := by decide +kernel
theorem dX5_warmthOf_11 : decode cX5_warmthOf 11 = .ok (.getfield 7, 3) := by decide +kernel
theorem dX5_warmthOf_14 : decode cX5_warmthOf 14 = .ok (.iload_n 1, 1) := by decide +kernel
theorem dX5_warmthOf_15 : decode cX5_warmthOf 15 = .ok (.iload_n 3, 1) := by decide +kernel
theorem dX5_warmthOf_16 : decode cX5_warmthOf 16 = .ok (.invokestatic 122, 3) := by decide +kernel
theorem dX5_warmthOf_19 : decode cX5_warmthOf 19 = .ok (.iaload, 1) := by decide +kernel
theorem dX5_warmthOf_20 : decode cX5_warmthOf 20 = .ok (.istore 4, 2) := by decide +kernel
theorem dX5_warmthOf_22 : decode cX5_warmthOf 22 = .ok (.aload_n 0, 1) := by decide +kernel
theorem dX5_warmthOf_23 : decode cX5_warmthOf 23 = .ok (.getfield 7, 3) := by decide +kernel
theorem dX5_warmthOf_26 : decode cX5_warmthOf 26 = .ok (.iconst 2, 1) := by decide +kernel
theorem dX5_warmthOf_27 : decode cX5_warmthOf 27 = .ok (.iload_n 3, 1) := by decide +kernel
theorem dX5_warmthOf_28 : decode cX5_warmthOf 28 = .ok (.iadd, 1) := by decide +kernel
theorem dX5_warmthOf_29 : decode cX5_warmthOf 29 = .ok (.iaload, 1) := by decide +kernel
theorem dX5_warmthOf_30 : decode cX5_warmthOf 30 = .ok (.istore 5, 2) := by decide +kernel
theorem dX5_warmthOf_32 : decode cX5_warmthOf 32 = .ok (.iload_n 2, 1) := by decide +kernel
theorem dX5_warmthOf_33 : decode cX5_warmthOf 33 = .ok (.iload 5, 2) := by decide +kernel
theorem dX5_warmthOf_35 : decode cX5_warmthOf 35 = .ok (.ifCond .ge 10, 3) := by decide +kernel
theorem dX5_warmthOf_38 : decode cX5_warmthOf 38 = .ok (.iconst 2, 1) := by decide +kernel
theorem dX5_warmthOf_39 : decode cX5_warmthOf 39 = .ok (.iload 4, 2) := by decide +kernel
theorem dX5_warmthOf_41 : decode cX5_warmthOf 41 = .ok (.imul, 1) := by decide +kernel
theorem dX5_warmthOf_42 : decode cX5_warmthOf 42 = .ok (.goto 19, 3) := by decide +kernel
theorem dX5_warmthOf_45 : decode cX5_warmthOf 45 = .ok (.iload 5, 2) := by decide +kernel
theorem dX5_warmthOf_47 : decode cX5_warmthOf 47 = .ok (.bipush 10, 2) := by decide +kernel
theorem dX5_warmthOf_49 : decode cX5_warmthOf 49 = .ok (.if_icmp .le 10, 3) := by decide +kernel
theorem dX5_warmthOf_52 : decode cX5_warmthOf 52 = .ok (.iload 4, 2) := by decide +kernel
theorem dX5_warmthOf_54 : decode cX5_warmthOf 54 = .ok (.iconst 2, 1) := by decide +kernel
theorem dX5_warmthOf_55 : decode cX5_warmthOf 55 = .ok (.idiv, 1) := by decide +kernel
theorem dX5_warmthOf_56 : decode cX5_warmthOf 56 = .ok (.goto 5, 3) := by decide +kernel
theorem dX5_warmthOf_59 : decode cX5_warmthOf 59 = .ok (.iload 4, 2) := by decide +kernel
theorem dX5_warmthOf_61 : decode cX5_warmthOf 61 = .ok (.iadd, 1) := by decide +kernel
theorem dX5_warmthOf_62 : decode cX5_warmthOf 62 = .ok (.istore_n 2, 1) := by decide +kernel
theorem dX5_warmthOf_63 : decode cX5_warmthOf 63 = .ok (.iinc 3 1, 3) := by decide +kernel
theorem dX5_warmthOf_66 : decode cX5_warmthOf 66 = .ok (.goto (-62), 3) := by decide +kernel
theorem dX5_warmthOf_69 : decode cX5_warmthOf 69 = .ok (.iload_n 2, 1) := by decide +kernel
theorem dX5_warmthOf_70 : decode cX5_warmthOf 70 = .ok (.ireturn, 1) := by decide +kernel
theorem dX5_harshOf_0 : decode cX5_harshOf 0 = .ok (.iconst 0, 1) := by decide +kernel
theorem dX5_harshOf_1 : decode cX5_harshOf 1 = .ok (.istore_n 2, 1) := by decide +kernel
theorem dX5_harshOf_2 : decode cX5_harshOf 2 = .ok (.iconst 0, 1) := by decide +kernel
theorem dX5_harshOf_3 : decode cX5_harshOf 3 = .ok (.istore_n 3, 1) := by decide +kernel
theorem dX5_harshOf_4 : decode cX5_harshOf 4 = .ok (.iload_n 3, 1) := by decide +kernel
theorem dX5_harshOf_5 : decode cX5_harshOf 5 = .ok (.bipush 12, 2) := by decide +kernel
theorem dX5_harshOf_7 : decode cX5_harshOf 7 = .ok (.if_icmp .ge 35, 3) := by decide +kernel
theorem dX5_harshOf_10 : decode cX5_harshOf 10 = .ok (.iload_n 2, 1) := by decide +kernel
theorem dX5_harshOf_11 : decode cX5_harshOf 11 = .ok (.aload_n 0, 1) := by decide +kernel
theorem dX5_harshOf_12 : decode cX5_harshOf 12 = .ok (.getfield 7, 3) := by decide +kernel
theorem dX5_harshOf_15 : decode cX5_harshOf 15 = .ok (.iload_n 1, 1) := by decide +kernel
theorem dX5_harshOf_16 : decode cX5_harshOf 16 = .ok (.iload_n 3, 1) := by decide +kernel
theorem dX5_harshOf_17 : decode cX5_harshOf 17 = .ok (.invokestatic 122, 3) := by decide +kernel
theorem dX5_harshOf_20 : decode cX5_harshOf 20 = .ok (.iaload, 1) := by decide +kernel
theorem dX5_harshOf_21 : decode cX5_harshOf 21 = .ok (.aload_n 0, 1) := by decide +kernel
theorem dX5_harshOf_22 : decode cX5_harshOf 22 = .ok (.getfield 7, 3) := by decide +kernel
theorem dX5_harshOf_25 : decode cX5_harshOf 25 = .ok (.bipush 26, 2) := by decide +kernel
theorem dX5_harshOf_27 : decode cX5_harshOf 27 = .ok (.iload_n 3, 1) := by decide +kernel
theorem dX5_harshOf_28 : decode cX5_harshOf 28 = .ok (.iadd, 1) := by decide +kernel
theorem dX5_harshOf_29 : decode cX5_harshOf 29 = .ok (.iaload, 1) := by decide +kernel
theorem dX5_harshOf_30 : decode cX5_harshOf 30 = .ok (.imul, 1) := by decide +kernel
theorem dX5_harshOf_31 : decode cX5_harshOf 31 = .ok (.bipush 100, 2) := by decide +kernel
theorem dX5_harshOf_33 : decode cX5_harshOf 33 = .ok (.idiv, 1) := by decide +kernel
theorem dX5_harshOf_34 : decode cX5_harshOf 34 = .ok (.iadd, 1) := by decide +kernel
theorem dX5_harshOf_35 : decode cX5_harshOf 35 = .ok (.istore_n 2, 1) := by decide +kernel
theorem dX5_harshOf_36 : decode cX5_harshOf 36 = .ok (.iinc 3 1, 3) := by decide +kernel
theorem dX5_harshOf_39 : decode cX5_harshOf 39 = .ok (.goto (-35), 3) := by decide +kernel
theorem dX5_harshOf_42 : decode cX5_harshOf 42 = .ok (.iload_n 2, 1) := by decide +kernel
theorem dX5_harshOf_43 : decode cX5_harshOf 43 = .ok (.ireturn, 1) := by decide +kernel
theorem dX5_monthsIn_0 : decode cX5_monthsIn 0 = .ok (.iconst 0, 1) := by decide +kernel
theorem dX5_monthsIn_1 : decode cX5_monthsIn 1 = .ok (.istore_n 2, 1) := by decide +kernel
theorem dX5_monthsIn_2 : decode cX5_monthsIn 2 = .ok (.iconst 0, 1) := by decide +kernel
theorem dX5_monthsIn_3 : decode cX5_monthsIn 3 = .ok (.istore_n 3, 1) := by decide +kernel
theorem dX5_monthsIn_4 : decode cX5_monthsIn 4 = .ok (.iload_n 3, 1) := by decide +kernel
theorem dX5_monthsIn_5 : decode cX5_monthsIn 5 = .ok (.bipush 12, 2) := by decide +kernel
theorem dX5_monthsIn_7 : decode cX5_monthsIn 7 = .ok (.if_icmp .ge 32, 3) := by decide +kernel
theorem dX5_monthsIn_10 : decode cX5_monthsIn 10 = .ok (.iload_n 2, 1) := by decide +kernel
theorem dX5_monthsIn_11 : decode cX5_monthsIn 11 = .ok (.aload_n 0, 1) := by decide +kernel
theorem dX5_monthsIn_12 : decode cX5_monthsIn 12 = .ok (.getfield 7, 3) := by decide +kernel
theorem dX5_monthsIn_15 : decode cX5_monthsIn 15 = .ok (.iload_n 1, 1) := by decide +kernel
theorem dX5_monthsIn_16 : decode cX5_monthsIn 16 = .ok (.iload_n 3, 1) := by decide +kernel
theorem dX5_monthsIn_17 : decode cX5_monthsIn 17 = .ok (.invokestatic 122, 3) := by decide +kernel
theorem dX5_monthsIn_20 : decode cX5_monthsIn 20 = .ok (.iaload, 1) := by decide +kernel
theorem dX5_monthsIn_21 : decode cX5_monthsIn 21 = .ok (.ifCond .le 9, 3) := by decide +kernel
theorem dX5_monthsIn_24 : decode cX5_monthsIn 24 = .ok (.iconst 1, 1) := by decide +kernel
theorem dX5_monthsIn_25 : decode cX5_monthsIn 25 = .ok (.iload_n 3, 1) := by decide +kernel
theorem dX5_monthsIn_26 : decode cX5_monthsIn 26 = .ok (.ishl, 1) := by decide +kernel
theorem dX5_monthsIn_27 : decode cX5_monthsIn 27 = .ok (.goto 4, 3) := by decide +kernel
theorem dX5_monthsIn_30 : decode cX5_monthsIn 30 = .ok (.iconst 0, 1) := by decide +kernel
theorem dX5_monthsIn_31 : decode cX5_monthsIn 31 = .ok (.ior, 1) := by decide +kernel
theorem dX5_monthsIn_32 : decode cX5_monthsIn 32 = .ok (.istore_n 2, 1) := by decide +kernel
theorem dX5_monthsIn_33 : decode cX5_monthsIn 33 = .ok (.iinc 3 1, 3) := by decide +kernel
theorem dX5_monthsIn_36 : decode cX5_monthsIn 36 = .ok (.goto (-32), 3) := by decide +kernel
theorem dX5_monthsIn_39 : decode cX5_monthsIn 39 = .ok (.iload_n 2, 1) := by decide +kernel
theorem dX5_monthsIn_40 : decode cX5_monthsIn 40 = .ok (.ireturn, 1) := by decide +kernel
theorem dX5_cuts_0 : decode cX5_cuts 0 = .ok (.aload_n 0, 1) := by decide +kernel
theorem dX5_cuts_1 : decode cX5_cuts 1 = .ok (.getfield 7, 3) := by decide +kernel
theorem dX5_cuts_4 : decode cX5_cuts 4 = .ok (.bipush 14, 2) := by decide +kernel
theorem dX5_cuts_6 : decode cX5_cuts 6 = .ok (.iload_n 2, 1) := by decide +kernel
theorem dX5_cuts_7 : decode cX5_cuts 7 = .ok (.iadd, 1) := by decide +kernel
theorem dX5_cuts_8 : decode cX5_cuts 8 = .ok (.dup2, 1) := by decide +kernel
theorem dX5_cuts_9 : decode cX5_cuts 9 = .ok (.iaload, 1) := by decide +kernel
theorem dX5_cuts_10 : decode cX5_cuts 10 = .ok (.iload_n 3, 1) := by decide +kernel
theorem dX5_cuts_11 : decode cX5_cuts 11 = .ok (.isub, 1) := by decide +kernel
theorem dX5_cuts_12 : decode cX5_cuts 12 = .ok (.iastore, 1) := by decide +kernel
theorem dX5_cuts_13 : decode cX5_cuts 13 = .ok (.aload_n 0, 1) := by decide +kernel
theorem dX5_cuts_14 : decode cX5_cuts 14 = .ok (.getfield 7, 3) := by decide +kernel
theorem dX5_cuts_17 : decode cX5_cuts 17 = .ok (.iload_n 1, 1) := by decide +kernel
theorem dX5_cuts_18 : decode cX5_cuts 18 = .ok (.iload_n 2, 1) := by decide +kernel
theorem dX5_cuts_19 : decode cX5_cuts 19 = .ok (.invokestatic 122, 3) := by decide +kernel
theorem dX5_cuts_22 : decode cX5_cuts 22 = .ok (.dup2, 1) := by decide +kernel
theorem dX5_cuts_23 : decode cX5_cuts 23 = .ok (.iaload, 1) := by decide +kernel
theorem dX5_cuts_24 : decode cX5_cuts 24 = .ok (.iload_n 3, 1) := by decide +kernel
theorem dX5_cuts_25 : decode cX5_cuts 25 = .ok (.iadd, 1) := by decide +kernel
theorem dX5_cuts_26 : decode cX5_cuts 26 = .ok (.iastore, 1) := by decide +kernel
theorem dX5_cuts_27 : decode cX5_cuts 27 = .ok (.aload_n 0, 1) := by decide +kernel
theorem dX5_cuts_28 : decode cX5_cuts 28 = .ok (.getfield 7, 3) := by decide +kernel
theorem dX5_cuts_31 : decode cX5_cuts 31 = .ok (.iload_n 1, 1) := by decide +kernel
theorem dX5_cuts_32 : decode cX5_cuts 32 = .ok (.iload_n 2, 1) := by decide +kernel
theorem dX5_cuts_33 : decode cX5_cuts 33 = .ok (.invokestatic 122, 3) := by decide +kernel
theorem dX5_cuts_36 : decode cX5_cuts 36 = .ok (.iaload, 1) := by decide +kernel
theorem dX5_cuts_37 : decode cX5_cuts 37 = .ok (.ireturn, 1) := by decide +kernel
theorem dX5_cut_0 : decode cX5_cut 0 = .ok (.iload_n 1, 1) := by decide +kernel
theorem dX5_cut_1 : decode cX5_cut 1 = .ok (.invokestatic 125, 3) := by decide +kernel
theorem dX5_cut_4 : decode cX5_cut 4 = .ok (.ifCond .eq 22, 3) := by decide +kernel
theorem dX5_cut_7 : decode cX5_cut 7 = .ok (.iload_n 2, 1) := by decide +kernel
theorem dX5_cut_8 : decode cX5_cut 8 = .ok (.invokestatic 67, 3) := by decide +kernel
theorem dX5_cut_11 : decode cX5_cut 11 = .ok (.ifCond .eq 15, 3) := by decide +kernel
theorem dX5_cut_14 : decode cX5_cut 14 = .ok (.iload_n 3, 1) := by decide +kernel
theorem dX5_cut_15 : decode cX5_cut 15 = .ok (.i2l, 1) := by decide +kernel
theorem dX5_cut_16 : decode cX5_cut 16 = .ok (.lconst 1, 1) := by decide +kernel
theorem dX5_cut_17 : decode cX5_cut 17 = .ok (.ldc2_w 128, 3) := by decide +kernel
theorem dX5_cut_20 : decode cX5_cut 20 = .ok (.invokestatic 46, 3) := by decide +kernel
theorem dX5_cut_23 : decode cX5_cut 23 = .ok (.ifCond .ne 10, 3) := by decide +kernel
theorem dX5_cut_26 : decode cX5_cut 26 = .ok (.aload_n 0, 1) := by decide +kernel
theorem dX5_cut_27 : decode cX5_cut 27 = .ok (.ldc 41, 2) := by decide +kernel
theorem dX5_cut_29 : decode cX5_cut 29 = .ok (.invokevirtual 78, 3) := by decide +kernel
theorem dX5_cut_32 : decode cX5_cut 32 = .ok (.ireturn, 1) := by decide +kernel
theorem dX5_cut_33 : decode cX5_cut 33 = .ok (.aload_n 0, 1) := by decide +kernel
theorem dX5_cut_34 : decode cX5_cut 34 = .ok (.getfield 7, 3) := by decide +kernel
theorem dX5_cut_37 : decode cX5_cut 37 = .ok (.bipush 14, 2) := by decide +kernel
theorem dX5_cut_39 : decode cX5_cut 39 = .ok (.iload_n 2, 1) := by decide +kernel
theorem dX5_cut_40 : decode cX5_cut 40 = .ok (.iadd, 1) := by decide +kernel
theorem dX5_cut_41 : decode cX5_cut 41 = .ok (.iaload, 1) := by decide +kernel
theorem dX5_cut_42 : decode cX5_cut 42 = .ok (.iload_n 3, 1) := by decide +kernel
theorem dX5_cut_43 : decode cX5_cut 43 = .ok (.if_icmp .ge 10, 3) := by decide +kernel
theorem dX5_cut_46 : decode cX5_cut 46 = .ok (.aload_n 0, 1) := by decide +kernel
theorem dX5_cut_47 : decode cX5_cut 47 = .ok (.ldc 130, 2) := by decide +kernel
theorem dX5_cut_49 : decode cX5_cut 49 = .ok (.invokevirtual 78, 3) := by decide +kernel
theorem dX5_cut_52 : decode cX5_cut 52 = .ok (.ireturn, 1) := by decide +kernel
theorem dX5_cut_53 : decode cX5_cut 53 = .ok (.aload_n 0, 1) := by decide +kernel
theorem dX5_cut_54 : decode cX5_cut 54 = .ok (.getfield 7, 3) := by decide +kernel
theorem dX5_cut_57 : decode cX5_cut 57 = .ok (.iload_n 1, 1) := by decide +kernel
theorem dX5_cut_58 : decode cX5_cut 58 = .ok (.iload_n 2, 1) := by decide +kernel
theorem dX5_cut_59 : decode cX5_cut 59 = .ok (.invokestatic 122, 3) := by decide +kernel
theorem dX5_cut_62 : decode cX5_cut 62 = .ok (.iaload, 1) := by decide +kernel
theorem dX5_cut_63 : decode cX5_cut 63 = .ok (.iload_n 3, 1) := by decide +kernel
theorem dX5_cut_64 : decode cX5_cut 64 = .ok (.iadd, 1) := by decide +kernel
theorem dX5_cut_65 : decode cX5_cut 65 = .ok (.sipush 999, 3) := by decide +kernel
theorem dX5_cut_68 : decode cX5_cut 68 = .ok (.if_icmp .le 12, 3) := by decide +kernel
theorem dX5_cut_71 : decode cX5_cut 71 = .ok (.aload_n 0, 1) := by decide +kernel
theorem dX5_cut_72 : decode cX5_cut 72 = .ok (.ldc 96, 2) := by decide +kernel
theorem dX5_cut_74 : decode cX5_cut 74 = .ok (.invokevirtual 78, 3) := by decide +kernel
theorem dX5_cut_77 : decode cX5_cut 77 = .ok (.goto 10, 3) := by decide +kernel
theorem dX5_cut_80 : decode cX5_cut 80 = .ok (.aload_n 0, 1) := by decide +kernel
theorem dX5_cut_81 : decode cX5_cut 81 = .ok (.iload_n 1, 1) := by decide +kernel
theorem dX5_cut_82 : decode cX5_cut 82 = .ok (.iload_n 2, 1) := by decide +kernel
theorem dX5_cut_83 : decode cX5_cut 83 = .ok (.iload_n 3, 1) := by decide +kernel
theorem dX5_cut_84 : decode cX5_cut 84 = .ok (.invokevirtual 131, 3) := by decide +kernel
theorem dX5_cut_87 : decode cX5_cut 87 = .ok (.ireturn, 1) := by decide +kernel
theorem dX5_coatOf_0 : decode cX5_coatOf 0 = .ok (.iload_n 1, 1) := by decide +kernel
theorem dX5_coatOf_1 : decode cX5_coatOf 1 = .ok (.invokestatic 125, 3) := by decide +kernel
theorem dX5_coatOf_4 : decode cX5_coatOf 4 = .ok (.ifCond .eq 15, 3) := by decide +kernel
theorem dX5_coatOf_7 : decode cX5_coatOf 7 = .ok (.iload_n 2, 1) := by decide +kernel
theorem dX5_coatOf_8 : decode cX5_coatOf 8 = .ok (.i2l, 1) := by decide +kernel
theorem dX5_coatOf_9 : decode cX5_coatOf 9 = .ok (.lconst 0, 1) := by decide +kernel
theorem dX5_coatOf_10 : decode cX5_coatOf 10 = .ok (.ldc2_w 52, 3) := by decide +kernel
theorem dX5_coatOf_13 : decode cX5_coatOf 13 = .ok (.invokestatic 46, 3) := by decide +kernel
theorem dX5_coatOf_16 : decode cX5_coatOf 16 = .ok (.ifCond .ne 10, 3) := by decide +kernel
theorem dX5_coatOf_19 : decode cX5_coatOf 19 = .ok (.aload_n 0, 1) := by decide +kernel
theorem dX5_coatOf_20 : decode cX5_coatOf 20 = .ok (.ldc 41, 2) := by decide +kernel
theorem dX5_coatOf_22 : decode cX5_coatOf 22 = .ok (.invokevirtual 78, 3) := by decide +kernel
theorem dX5_coatOf_25 : decode cX5_coatOf 25 = .ok (.ireturn, 1) := by decide +kernel
theorem dX5_coatOf_26 : decode cX5_coatOf 26 = .ok (.iload_n 2, 1) := by decide +kernel
theorem dX5_coatOf_27 : decode cX5_coatOf 27 = .ok (.ifCond .ne 11, 3) := by decide +kernel
theorem dX5_coatOf_30 : decode cX5_coatOf 30 = .ok (.aload_n 0, 1) := by decide +kernel
theorem dX5_coatOf_31 : decode cX5_coatOf 31 = .ok (.iload_n 1, 1) := by decide +kernel
theorem dX5_coatOf_32 : decode cX5_coatOf 32 = .ok (.invokevirtual 135, 3) := by decide +kernel
theorem dX5_coatOf_35 : decode cX5_coatOf 35 = .ok (.goto 38, 3) := by decide +kernel
theorem dX5_coatOf_38 : decode cX5_coatOf 38 = .ok (.iload_n 2, 1) := by decide +kernel
theorem dX5_coatOf_39 : decode cX5_coatOf 39 = .ok (.iconst 1, 1) := by decide +kernel
theorem dX5_coatOf_40 : decode cX5_coatOf 40 = .ok (.if_icmp .ne 11, 3) := by decide +kernel
theorem dX5_coatOf_43 : decode cX5_coatOf 43 = .ok (.aload_n 0, 1) := by decide +kernel
theorem dX5_coatOf_44 : decode cX5_coatOf 44 = .ok (.iload_n 1, 1) := by decide +kernel
theorem dX5_coatOf_45 : decode cX5_coatOf 45 = .ok (.invokevirtual 138, 3) := by decide +kernel
theorem dX5_coatOf_48 : decode cX5_coatOf 48 = .ok (.goto 25, 3) := by decide +kernel
theorem dX5_coatOf_51 : decode cX5_coatOf 51 = .ok (.iload_n 2, 1) := by decide +kernel
theorem dX5_coatOf_52 : decode cX5_coatOf 52 = .ok (.iconst 2, 1) := by decide +kernel
theorem dX5_coatOf_53 : decode cX5_coatOf 53 = .ok (.if_icmp .ne 15, 3) := by decide +kernel
theorem dX5_coatOf_56 : decode cX5_coatOf 56 = .ok (.aload_n 0, 1) := by decide +kernel
theorem dX5_coatOf_57 : decode cX5_coatOf 57 = .ok (.iload_n 1, 1) := by decide +kernel
theorem dX5_coatOf_58 : decode cX5_coatOf 58 = .ok (.iconst 0, 1) := by decide +kernel
theorem dX5_coatOf_59 : decode cX5_coatOf 59 = .ok (.invokestatic 122, 3) := by decide +kernel
theorem dX5_coatOf_62 : decode cX5_coatOf 62 = .ok (.invokevirtual 60, 3) := by decide +kernel
theorem dX5_coatOf_65 : decode cX5_coatOf 65 = .ok (.goto 8, 3) := by decide +kernel
theorem dX5_coatOf_68 : decode cX5_coatOf 68 = .ok (.aload_n 0, 1) := by decide +kernel
theorem dX5_coatOf_69 : decode cX5_coatOf 69 = .ok (.iload_n 1, 1) := by decide +kernel
theorem dX5_coatOf_70 : decode cX5_coatOf 70 = .ok (.invokevirtual 141, 3) := by decide +kernel
theorem dX5_coatOf_73 : decode cX5_coatOf 73 = .ok (.ireturn, 1) := by decide +kernel
theorem dX5_unpick_0 : decode cX5_unpick 0 = .ok (.iload_n 1, 1) := by decide +kernel
theorem dX5_unpick_1 : decode cX5_unpick 1 = .ok (.invokestatic 125, 3) := by decide +kernel
theorem dX5_unpick_4 : decode cX5_unpick 4 = .ok (.ifCond .ne 10, 3) := by decide +kernel
theorem dX5_unpick_7 : decode cX5_unpick 7 = .ok (.aload_n 0, 1) := by decide +kernel
theorem dX5_unpick_8 : decode cX5_unpick 8 = .ok (.ldc 41, 2) := by decide +kernel
theorem dX5_unpick_10 : decode cX5_unpick 10 = .ok (.invokevirtual 78, 3) := by decide +kernel
theorem dX5_unpick_13 : decode cX5_unpick 13 = .ok (.ireturn, 1) := by decide +kernel
theorem dX5_unpick_14 : decode cX5_unpick 14 = .ok (.aload_n 0, 1) := by decide +kernel
theorem dX5_unpick_15 : decode cX5_unpick 15 = .ok (.iload_n 1, 1) := by decide +kernel
theorem dX5_unpick_16 : decode cX5_unpick 16 = .ok (.iconst 0, 1) := by decide +kernel
theorem dX5_unpick_17 : decode cX5_unpick 17 = .ok (.invokestatic 122, 3) := by decide +kernel
theorem dX5_unpick_20 : decode cX5_unpick 20 = .ok (.invokevirtual 60, 3) := by decide +kernel
theorem dX5_unpick_23 : decode cX5_unpick 23 = .ok (.istore_n 2, 1) := by decide +kernel
theorem dX5_unpick_24 : decode cX5_unpick 24 = .ok (.iconst 0, 1) := by decide +kernel
theorem dX5_unpick_25 : decode cX5_unpick 25 = .ok (.istore_n 3, 1) := by decide +kernel
theorem dX5_unpick_26 : decode cX5_unpick 26 = .ok (.iload_n 3, 1) := by decide +kernel
theorem dX5_unpick_27 : decode cX5_unpick 27 = .ok (.bipush 12, 2) := by decide +kernel
theorem dX5_unpick_29 : decode cX5_unpick 29 = .ok (.if_icmp .ge 55, 3) := by decide +kernel
theorem dX5_unpick_32 : decode cX5_unpick 32 = .ok (.aload_n 0, 1) := by decide +kernel
theorem dX5_unpick_33 : decode cX5_unpick 33 = .ok (.getfield 7, 3) := by decide +kernel
theorem dX5_unpick_36 : decode cX5_unpick 36 = .ok (.bipush 14, 2) := by decide +kernel
theorem dX5_unpick_38 : decode cX5_unpick 38 = .ok (.iload_n 3, 1) := by decide +kernel
theorem dX5_unpick_39 : decode cX5_unpick 39 = .ok (.iadd, 1) := by decide +kernel
theorem dX5_unpick_40 : decode cX5_unpick 40 = .ok (.aload_n 0, 1) := by decide +kernel
theorem dX5_unpick_41 : decode cX5_unpick 41 = .ok (.getfield 7, 3) := by decide +kernel
theorem dX5_unpick_44 : decode cX5_unpick 44 = .ok (.bipush 14, 2) := by decide +kernel
theorem dX5_unpick_46 : decode cX5_unpick 46 = .ok (.iload_n 3, 1) := by decide +kernel
theorem dX5_unpick_47 : decode cX5_unpick 47 = .ok (.iadd, 1) := by decide +kernel
theorem dX5_unpick_48 : decode cX5_unpick 48 = .ok (.iaload, 1) := by decide +kernel
theorem dX5_unpick_49 : decode cX5_unpick 49 = .ok (.aload_n 0, 1) := by decide +kernel
theorem dX5_unpick_50 : decode cX5_unpick 50 = .ok (.getfield 7, 3) := by decide +kernel
theorem dX5_unpick_53 : decode cX5_unpick 53 = .ok (.iload_n 1, 1) := by decide +kernel
theorem dX5_unpick_54 : decode cX5_unpick 54 = .ok (.iload_n 3, 1) := by decide +kernel
theorem dX5_unpick_55 : decode cX5_unpick 55 = .ok (.invokestatic 122, 3) := by decide +kernel
theorem dX5_unpick_58 : decode cX5_unpick 58 = .ok (.iaload, 1) := by decide +kernel
theorem dX5_unpick_59 : decode cX5_unpick 59 = .ok (.iadd, 1) := by decide +kernel
theorem dX5_unpick_60 : decode cX5_unpick 60 = .ok (.sipush 9999, 3) := by decide +kernel
theorem dX5_unpick_63 : decode cX5_unpick 63 = .ok (.invokestatic 144, 3) := by decide +kernel
theorem dX5_unpick_66 : decode cX5_unpick 66 = .ok (.iastore, 1) := by decide +kernel
theorem dX5_unpick_67 : decode cX5_unpick 67 = .ok (.aload_n 0, 1) := by decide +kernel
theorem dX5_unpick_68 : decode cX5_unpick 68 = .ok (.getfield 7, 3) := by decide +kernel
theorem dX5_unpick_71 : decode cX5_unpick 71 = .ok (.iload_n 1, 1) := by decide +kernel
theorem dX5_unpick_72 : decode cX5_unpick 72 = .ok (.iload_n 3, 1) := by decide +kernel
theorem dX5_unpick_73 : decode cX5_unpick 73 = .ok (.invokestatic 122, 3) := by decide +kernel
theorem dX5_unpick_76 : decode cX5_unpick 76 = .ok (.iconst 0, 1) := by decide +kernel
theorem dX5_unpick_77 : decode cX5_unpick 77 = .ok (.iastore, 1) := by decide +kernel
theorem dX5_unpick_78 : decode cX5_unpick 78 = .ok (.iinc 3 1, 3) := by decide +kernel
theorem dX5_unpick_81 : decode cX5_unpick 81 = .ok (.goto (-55), 3) := by decide +kernel
theorem dX5_unpick_84 : decode cX5_unpick 84 = .ok (.iload_n 2, 1) := by decide +kernel
theorem dX5_unpick_85 : decode cX5_unpick 85 = .ok (.ireturn, 1) := by decide +kernel
theorem dX5_isShorn_0 : decode cX5_isShorn 0 = .ok (.iconst 0, 1) := by decide +kernel
theorem dX5_isShorn_1 : decode cX5_isShorn 1 = .ok (.istore_n 2, 1) := by decide +kernel
theorem dX5_isShorn_2 : decode cX5_isShorn 2 = .ok (.iload_n 2, 1) := by decide +kernel
theorem dX5_isShorn_3 : decode cX5_isShorn 3 = .ok (.bipush 12, 2) := by decide +kernel
theorem dX5_isShorn_5 : decode cX5_isShorn 5 = .ok (.if_icmp .ge 107, 3) := by decide +kernel
theorem dX5_isShorn_8 : decode cX5_isShorn 8 = .ok (.aload_n 0, 1) := by decide +kernel
theorem dX5_isShorn_9 : decode cX5_isShorn 9 = .ok (.iload_n 1, 1) := by decide +kernel
theorem dX5_isShorn_10 : decode cX5_isShorn 10 = .ok (.iconst 2, 1) := by decide +kernel
theorem dX5_isShorn_11 : decode cX5_isShorn 11 = .ok (.iload_n 2, 1) := by decide +kernel
theorem dX5_isShorn_12 : decode cX5_isShorn 12 = .ok (.iadd, 1) := by decide +kernel
theorem dX5_isShorn_13 : decode cX5_isShorn 13 = .ok (.invokevirtual 90, 3) := by decide +kernel
theorem dX5_isShorn_16 : decode cX5_isShorn 16 = .ok (.istore_n 3, 1) := by decide +kernel
theorem dX5_isShorn_17 : decode cX5_isShorn 17 = .ok (.iload_n 3, 1) := by decide +kernel
theorem dX5_isShorn_18 : decode cX5_isShorn 18 = .ok (.ifCond .le 19, 3) := by decide +kernel
theorem dX5_isShorn_21 : decode cX5_isShorn 21 = .ok (.aload_n 0, 1) := by decide +kernel
theorem dX5_isShorn_22 : decode cX5_isShorn 22 = .ok (.iload_n 1, 1) := by decide +kernel
theorem dX5_isShorn_23 : decode cX5_isShorn 23 = .ok (.aload_n 0, 1) := by decide +kernel
theorem dX5_isShorn_24 : decode cX5_isShorn 24 = .ok (.getfield 7, 3) := by decide +kernel
theorem dX5_isShorn_27 : decode cX5_isShorn 27 = .ok (.iconst 2, 1) := by decide +kernel
theorem dX5_isShorn_28 : decode cX5_isShorn 28 = .ok (.iload_n 2, 1) := by decide +kernel
theorem dX5_isShorn_29 : decode cX5_isShorn 29 = .ok (.iadd, 1) := by decide +kernel
theorem dX5_isShorn_30 : decode cX5_isShorn 30 = .ok (.iaload, 1) := by decide +kernel
theorem dX5_isShorn_31 : decode cX5_isShorn 31 = .ok (.invokevirtual 112, 3) := by decide +kernel
theorem dX5_isShorn_34 : decode cX5_isShorn 34 = .ok (.goto 4, 3) := by decide +kernel
theorem dX5_isShorn_37 : decode cX5_isShorn 37 = .ok (.iconst 0, 1) := by decide +kernel
theorem dX5_isShorn_38 : decode cX5_isShorn 38 = .ok (.istore 4, 2) := by decide +kernel
theorem dX5_isShorn_40 : decode cX5_isShorn 40 = .ok (.aload_n 0, 1) := by decide +kernel
theorem dX5_isShorn_41 : decode cX5_isShorn 41 = .ok (.getfield 7, 3) := by decide +kernel
theorem dX5_isShorn_44 : decode cX5_isShorn 44 = .ok (.bipush 14, 2) := by decide +kernel
theorem dX5_isShorn_46 : decode cX5_isShorn 46 = .ok (.iload_n 2, 1) := by decide +kernel
theorem dX5_isShorn_47 : decode cX5_isShorn 47 = .ok (.iadd, 1) := by decide +kernel
theorem dX5_isShorn_48 : decode cX5_isShorn 48 = .ok (.aload_n 0, 1) := by decide +kernel
theorem dX5_isShorn_49 : decode cX5_isShorn 49 = .ok (.getfield 7, 3) := by decide +kernel
theorem dX5_isShorn_52 : decode cX5_isShorn 52 = .ok (.bipush 14, 2) := by decide +kernel
theorem dX5_isShorn_54 : decode cX5_isShorn 54 = .ok (.iload_n 2, 1) := by decide +kernel
theorem dX5_isShorn_55 : decode cX5_isShorn 55 = .ok (.iadd, 1) := by decide +kernel
theorem dX5_isShorn_56 : decode cX5_isShorn 56 = .ok (.iaload, 1) := by decide +kernel
theorem dX5_isShorn_57 : decode cX5_isShorn 57 = .ok (.iload_n 3, 1) := by decide +kernel
theorem dX5_isShorn_58 : decode cX5_isShorn 58 = .ok (.iadd, 1) := by decide +kernel
theorem dX5_isShorn_59 : decode cX5_isShorn 59 = .ok (.sipush 9999, 3) := by decide +kernel
theorem dX5_isShorn_62 : decode cX5_isShorn 62 = .ok (.invokestatic 144, 3) := by decide +kernel
theorem dX5_isShorn_65 : decode cX5_isShorn 65 = .ok (.iastore, 1) := by decide +kernel
theorem dX5_isShorn_66 : decode cX5_isShorn 66 = .ok (.aload_n 0, 1) := by decide +kernel
theorem dX5_isShorn_67 : decode cX5_isShorn 67 = .ok (.getfield 7, 3) := by decide +kernel
theorem dX5_isShorn_70 : decode cX5_isShorn 70 = .ok (.bipush 26, 2) := by decide +kernel
theorem dX5_isShorn_72 : decode cX5_isShorn 72 = .ok (.iload_n 2, 1) := by decide +kernel
theorem dX5_isShorn_73 : decode cX5_isShorn 73 = .ok (.iadd, 1) := by decide +kernel
theorem dX5_isShorn_74 : decode cX5_isShorn 74 = .ok (.aload_n 0, 1) := by decide +kernel
theorem dX5_isShorn_75 : decode cX5_isShorn 75 = .ok (.getfield 7, 3) := by decide +kernel
theorem dX5_isShorn_78 : decode cX5_isShorn 78 = .ok (.bipush 26, 2) := by decide +kernel
theorem dX5_isShorn_80 : decode cX5_isShorn 80 = .ok (.iload_n 2, 1) := by decide +kernel
theorem dX5_isShorn_81 : decode cX5_isShorn 81 = .ok (.iadd, 1) := by decide +kernel
theorem dX5_isShorn_82 : decode cX5_isShorn 82 = .ok (.iaload, 1) := by decide +kernel
theorem dX5_isShorn_83 : decode cX5_isShorn 83 = .ok (.iload 4, 2) := by decide +kernel
theorem dX5_isShorn_85 : decode cX5_isShorn 85 = .ok (.iadd, 1) := by decide +kernel
theorem dX5_isShorn_86 : decode cX5_isShorn 86 = .ok (.sipush 9999, 3) := by decide +kernel
theorem dX5_isShorn_89 : decode cX5_isShorn 89 = .ok (.invokestatic 144, 3) := by decide +kernel
theorem dX5_isShorn_92 : decode cX5_isShorn 92 = .ok (.iastore, 1) := by decide +kernel
theorem dX5_isShorn_93 : decode cX5_isShorn 93 = .ok (.aload_n 0, 1) := by decide +kernel
theorem dX5_isShorn_94 : decode cX5_isShorn 94 = .ok (.getfield 7, 3) := by decide +kernel
theorem dX5_isShorn_97 : decode cX5_isShorn 97 = .ok (.iload_n 1, 1) := by decide +kernel
theorem dX5_isShorn_98 : decode cX5_isShorn 98 = .ok (.iconst 2, 1) := by decide +kernel
theorem dX5_isShorn_99 : decode cX5_isShorn 99 = .ok (.iload_n 2, 1) := by decide +kernel
theorem dX5_isShorn_100 : decode cX5_isShorn 100 = .ok (.iadd, 1) := by decide +kernel
theorem dX5_isShorn_101 : decode cX5_isShorn 101 = .ok (.invokestatic 42, 3) := by decide +kernel
theorem dX5_isShorn_104 : decode cX5_isShorn 104 = .ok (.iconst 0, 1) := by decide +kernel
theorem dX5_isShorn_105 : decode cX5_isShorn 105 = .ok (.iastore, 1) := by decide +kernel
theorem dX5_isShorn_106 : decode cX5_isShorn 106 = .ok (.iinc 2 1, 3) := by decide +kernel
theorem dX5_isShorn_109 : decode cX5_isShorn 109 = .ok (.goto (-107), 3) := by decide +kernel
theorem dX5_isShorn_112 : decode cX5_isShorn 112 = .ok (.return_, 1) := by decide +kernel
theorem dX5_month_0 : decode cX5_month 0 = .ok (.aload_n 0, 1) := by decide +kernel
theorem dX5_month_1 : decode cX5_month 1 = .ok (.invokevirtual 83, 3) := by decide +kernel
theorem dX5_month_4 : decode cX5_month 4 = .ok (.istore_n 1, 1) := by decide +kernel
theorem dX5_month_5 : decode cX5_month 5 = .ok (.iconst 0, 1) := by decide +kernel
theorem dX5_month_6 : decode cX5_month 6 = .ok (.istore_n 2, 1) := by decide +kernel
theorem dX5_month_7 : decode cX5_month 7 = .ok (.iload_n 2, 1) := by decide +kernel
theorem dX5_month_8 : decode cX5_month 8 = .ok (.aload_n 0, 1) := by decide +kernel
theorem dX5_month_9 : decode cX5_month 9 = .ok (.getfield 7, 3) := by decide +kernel
theorem dX5_month_12 : decode cX5_month 12 = .ok (.iconst 1, 1) := by decide +kernel
theorem dX5_month_13 : decode cX5_month 13 = .ok (.iaload, 1) := by decide +kernel
theorem dX5_month_14 : decode cX5_month 14 = .ok (.if_icmp .ge 77, 3) := by decide +kernel
theorem dX5_month_17 : decode cX5_month 17 = .ok (.aload_n 0, 1) := by decide +kernel
theorem dX5_month_18 : decode cX5_month 18 = .ok (.iload_n 2, 1) := by decide +kernel
theorem dX5_month_19 : decode cX5_month 19 = .ok (.aload_n 0, 1) := by decide +kernel
theorem dX5_month_20 : decode cX5_month 20 = .ok (.getfield 7, 3) := by decide +kernel
theorem dX5_month_23 : decode cX5_month 23 = .ok (.iconst 2, 1) := by decide +kernel
theorem dX5_month_24 : decode cX5_month 24 = .ok (.iload_n 1, 1) := by decide +kernel
theorem dX5_month_25 : decode cX5_month 25 = .ok (.iadd, 1) := by decide +kernel
theorem dX5_month_26 : decode cX5_month 26 = .ok (.iaload, 1) := by decide +kernel
theorem dX5_month_27 : decode cX5_month 27 = .ok (.invokevirtual 106, 3) := by decide +kernel
theorem dX5_month_30 : decode cX5_month 30 = .ok (.istore_n 3, 1) := by decide +kernel
theorem dX5_month_31 : decode cX5_month 31 = .ok (.aload_n 0, 1) := by decide +kernel
theorem dX5_month_32 : decode cX5_month 32 = .ok (.getfield 7, 3) := by decide +kernel
theorem dX5_month_35 : decode cX5_month 35 = .ok (.iload_n 2, 1) := by decide +kernel
theorem dX5_month_36 : decode cX5_month 36 = .ok (.iconst 2, 1) := by decide +kernel
theorem dX5_month_37 : decode cX5_month 37 = .ok (.iload_n 1, 1) := by decide +kernel
theorem dX5_month_38 : decode cX5_month 38 = .ok (.iadd, 1) := by decide +kernel
theorem dX5_month_39 : decode cX5_month 39 = .ok (.invokestatic 42, 3) := by decide +kernel
theorem dX5_month_42 : decode cX5_month 42 = .ok (.iload_n 3, 1) := by decide +kernel
theorem dX5_month_43 : decode cX5_month 43 = .ok (.aload_n 0, 1) := by decide +kernel
theorem dX5_month_44 : decode cX5_month 44 = .ok (.iload_n 2, 1) := by decide +kernel
theorem dX5_month_45 : decode cX5_month 45 = .ok (.invokevirtual 109, 3) := by decide +kernel
theorem dX5_month_48 : decode cX5_month 48 = .ok (.iload_n 3, 1) := by decide +kernel
theorem dX5_month_49 : decode cX5_month 49 = .ok (.invokestatic 144, 3) := by decide +kernel
theorem dX5_month_52 : decode cX5_month 52 = .ok (.isub, 1) := by decide +kernel
theorem dX5_month_53 : decode cX5_month 53 = .ok (.iastore, 1) := by decide +kernel
theorem dX5_month_54 : decode cX5_month 54 = .ok (.aload_n 0, 1) := by decide +kernel
theorem dX5_month_55 : decode cX5_month 55 = .ok (.getfield 7, 3) := by decide +kernel
theorem dX5_month_58 : decode cX5_month 58 = .ok (.iload_n 2, 1) := by decide +kernel
theorem dX5_month_59 : decode cX5_month 59 = .ok (.iconst 1, 1) := by decide +kernel
theorem dX5_month_60 : decode cX5_month 60 = .ok (.invokestatic 42, 3) := by decide +kernel
theorem dX5_month_63 : decode cX5_month 63 = .ok (.aload_n 0, 1) := by decide +kernel
theorem dX5_month_64 : decode cX5_month 64 = .ok (.iload_n 2, 1) := by decide +kernel
theorem dX5_month_65 : decode cX5_month 65 = .ok (.iconst 1, 1) := by decide +kernel
theorem dX5_month_66 : decode cX5_month 66 = .ok (.invokevirtual 90, 3) := by decide +kernel
theorem dX5_month_69 : decode cX5_month 69 = .ok (.aload_n 0, 1) := by decide +kernel
theorem dX5_month_70 : decode cX5_month 70 = .ok (.iload_n 2, 1) := by decide +kernel
theorem dX5_month_71 : decode cX5_month 71 = .ok (.invokevirtual 103, 3) := by decide +kernel
theorem dX5_month_74 : decode cX5_month 74 = .ok (.aload_n 0, 1) := by decide +kernel
theorem dX5_month_75 : decode cX5_month 75 = .ok (.iload_n 2, 1) := by decide +kernel
theorem dX5_month_76 : decode cX5_month 76 = .ok (.iconst 1, 1) := by decide +kernel
theorem dX5_month_77 : decode cX5_month 77 = .ok (.invokevirtual 90, 3) := by decide +kernel
theorem dX5_month_80 : decode cX5_month 80 = .ok (.invokestatic 144, 3) := by decide +kernel
theorem dX5_month_83 : decode cX5_month 83 = .ok (.isub, 1) := by decide +kernel
theorem dX5_month_84 : decode cX5_month 84 = .ok (.iastore, 1) := by decide +kernel
theorem dX5_month_85 : decode cX5_month 85 = .ok (.iinc 2 1, 3) := by decide +kernel
theorem dX5_month_88 : decode cX5_month 88 = .ok (.goto (-81), 3) := by decide +kernel
theorem dX5_month_91 : decode cX5_month 91 = .ok (.iconst 0, 1) := by decide +kernel
theorem dX5_month_92 : decode cX5_month 92 = .ok (.istore_n 2, 1) := by decide +kernel
theorem dX5_month_93 : decode cX5_month 93 = .ok (.iload_n 2, 1) := by decide +kernel
theorem dX5_month_94 : decode cX5_month 94 = .ok (.aload_n 0, 1) := by decide +kernel
theorem dX5_month_95 : decode cX5_month 95 = .ok (.getfield 7, 3) := by decide +kernel
theorem dX5_month_98 : decode cX5_month 98 = .ok (.iconst 1, 1) := by decide +kernel
theorem dX5_month_99 : decode cX5_month 99 = .ok (.iaload, 1) := by decide +kernel
theorem dX5_month_100 : decode cX5_month 100 = .ok (.if_icmp .ge 19, 3) := by decide +kernel
theorem dX5_month_103 : decode cX5_month 103 = .ok (.iload_n 1, 1) := by decide +kernel
theorem dX5_month_104 : decode cX5_month 104 = .ok (.iconst 5, 1) := by decide +kernel
theorem dX5_month_105 : decode cX5_month 105 = .ok (.if_icmp .ne 14, 3) := by decide +kernel
theorem dX5_month_108 : decode cX5_month 108 = .ok (.aload_n 0, 1) := by decide +kernel
theorem dX5_month_109 : decode cX5_month 109 = .ok (.iload_n 2, 1) := by decide +kernel
theorem dX5_month_110 : decode cX5_month 110 = .ok (.invokevirtual 147, 3) := by decide +kernel
theorem dX5_month_113 : decode cX5_month 113 = .ok (.iinc 2 1, 3) := by decide +kernel
theorem dX5_month_116 : decode cX5_month 116 = .ok (.goto (-23), 3) := by decide +kernel
theorem dX5_month_119 : decode cX5_month 119 = .ok (.aload_n 0, 1) := by decide +kernel
theorem dX5_month_120 : decode cX5_month 120 = .ok (.getfield 7, 3) := by decide +kernel
theorem dX5_month_123 : decode cX5_month 123 = .ok (.iconst 0, 1) := by decide +kernel
theorem dX5_month_124 : decode cX5_month 124 = .ok (.dup2, 1) := by decide +kernel
theorem dX5_month_125 : decode cX5_month 125 = .ok (.iaload, 1) := by decide +kernel
theorem dX5_month_126 : decode cX5_month 126 = .ok (.iconst 1, 1) := by decide +kernel
theorem dX5_month_127 : decode cX5_month 127 = .ok (.iadd, 1) := by decide +kernel
theorem dX5_month_128 : decode cX5_month 128 = .ok (.iastore, 1) := by decide +kernel
theorem dX5_month_129 : decode cX5_month 129 = .ok (.return_, 1) := by decide +kernel
theorem dX5_monthsGo_0 : decode cX5_monthsGo 0 = .ok (.iconst 0, 1) := by decide +kernel
theorem dX5_monthsGo_1 : decode cX5_monthsGo 1 = .ok (.istore_n 2, 1) := by decide +kernel
theorem dX5_monthsGo_2 : decode cX5_monthsGo 2 = .ok (.iload_n 2, 1) := by decide +kernel
theorem dX5_monthsGo_3 : decode cX5_monthsGo 3 = .ok (.iload_n 1, 1) := by decide +kernel
theorem dX5_monthsGo_4 : decode cX5_monthsGo 4 = .ok (.if_icmp .ge 13, 3) := by decide +kernel
theorem dX5_monthsGo_7 : decode cX5_monthsGo 7 = .ok (.aload_n 0, 1) := by decide +kernel
theorem dX5_monthsGo_8 : decode cX5_monthsGo 8 = .ok (.invokevirtual 151, 3) := by decide +kernel
theorem dX5_monthsGo_11 : decode cX5_monthsGo 11 = .ok (.iinc 2 1, 3) := by decide +kernel
theorem dX5_monthsGo_14 : decode cX5_monthsGo 14 = .ok (.goto (-12), 3) := by decide +kernel
theorem dX5_monthsGo_17 : decode cX5_monthsGo 17 = .ok (.return_, 1) := by decide +kernel
theorem dX5_months_0 : decode cX5_months 0 = .ok (.iload_n 1, 1) := by decide +kernel
theorem dX5_months_1 : decode cX5_months 1 = .ok (.i2l, 1) := by decide +kernel
theorem dX5_months_2 : decode cX5_months 2 = .ok (.lconst 1, 1) := by decide +kernel
theorem dX5_months_3 : decode cX5_months 3 = .ok (.ldc2_w 154, 3) := by decide +kernel
theorem dX5_months_6 : decode cX5_months 6 = .ok (.invokestatic 46, 3) := by decide +kernel
theorem dX5_months_9 : decode cX5_months 9 = .ok (.ifCond .ne 10, 3) := by decide +kernel
theorem dX5_months_12 : decode cX5_months 12 = .ok (.aload_n 0, 1) := by decide +kernel
theorem dX5_months_13 : decode cX5_months 13 = .ok (.ldc 41, 2) := by decide +kernel
theorem dX5_months_15 : decode cX5_months 15 = .ok (.invokevirtual 78, 3) := by decide +kernel
theorem dX5_months_18 : decode cX5_months 18 = .ok (.ireturn, 1) := by decide +kernel
theorem dX5_months_19 : decode cX5_months 19 = .ok (.aload_n 0, 1) := by decide +kernel
theorem dX5_months_20 : decode cX5_months 20 = .ok (.getfield 7, 3) := by decide +kernel
theorem dX5_months_23 : decode cX5_months 23 = .ok (.iconst 0, 1) := by decide +kernel
theorem dX5_months_24 : decode cX5_months 24 = .ok (.iaload, 1) := by decide +kernel
theorem dX5_months_25 : decode cX5_months 25 = .ok (.iload_n 1, 1) := by decide +kernel
theorem dX5_months_26 : decode cX5_months 26 = .ok (.iadd, 1) := by decide +kernel
theorem dX5_months_27 : decode cX5_months 27 = .ok (.sipush 9999, 3) := by decide +kernel
theorem dX5_months_30 : decode cX5_months 30 = .ok (.if_icmp .le 10, 3) := by decide +kernel
theorem dX5_months_33 : decode cX5_months 33 = .ok (.aload_n 0, 1) := by decide +kernel
theorem dX5_months_34 : decode cX5_months 34 = .ok (.ldc 130, 2) := by decide +kernel
theorem dX5_months_36 : decode cX5_months 36 = .ok (.invokevirtual 78, 3) := by decide +kernel
theorem dX5_months_39 : decode cX5_months 39 = .ok (.ireturn, 1) := by decide +kernel
theorem dX5_months_40 : decode cX5_months 40 = .ok (.aload_n 0, 1) := by decide +kernel
theorem dX5_months_41 : decode cX5_months 41 = .ok (.iload_n 1, 1) := by decide +kernel
theorem dX5_months_42 : decode cX5_months 42 = .ok (.invokevirtual 156, 3) := by decide +kernel
theorem dX5_months_45 : decode cX5_months 45 = .ok (.aload_n 0, 1) := by decide +kernel
theorem dX5_months_46 : decode cX5_months 46 = .ok (.bipush 14, 2) := by decide +kernel
theorem dX5_months_48 : decode cX5_months 48 = .ok (.invokevirtual 60, 3) := by decide +kernel
theorem dX5_months_51 : decode cX5_months 51 = .ok (.ireturn, 1) := by decide +kernel
theorem dX5_isAhead_0 : decode cX5_isAhead 0 = .ok (.iload_n 0, 1) := by decide +kernel
theorem dX5_isAhead_1 : decode cX5_isAhead 1 = .ok (.i2l, 1) := by decide +kernel
theorem dX5_isAhead_2 : decode cX5_isAhead 2 = .ok (.lconst 0, 1) := by decide +kernel
theorem dX5_isAhead_3 : decode cX5_isAhead 3 = .ok (.ldc2_w 159, 3) := by decide +kernel
theorem dX5_isAhead_6 : decode cX5_isAhead 6 = .ok (.invokestatic 46, 3) := by decide +kernel
theorem dX5_isAhead_9 : decode cX5_isAhead 9 = .ok (.ireturn, 1) := by decide +kernel
theorem dX5_behind_0 : decode cX5_behind 0 = .ok (.aload_n 0, 1) := by decide +kernel
theorem dX5_behind_1 : decode cX5_behind 1 = .ok (.invokevirtual 161, 3) := by decide +kernel
theorem dX5_behind_4 : decode cX5_behind 4 = .ok (.aload_n 0, 1) := by decide +kernel
theorem dX5_behind_5 : decode cX5_behind 5 = .ok (.iload_n 2, 1) := by decide +kernel
theorem dX5_behind_6 : decode cX5_behind 6 = .ok (.invokevirtual 156, 3) := by decide +kernel
theorem dX5_behind_9 : decode cX5_behind 9 = .ok (.aload_n 0, 1) := by decide +kernel
theorem dX5_behind_10 : decode cX5_behind 10 = .ok (.aload_n 0, 1) := by decide +kernel
theorem dX5_behind_11 : decode cX5_behind 11 = .ok (.getfield 7, 3) := by decide +kernel
theorem dX5_behind_14 : decode cX5_behind 14 = .ok (.iload_n 1, 1) := by decide +kernel
theorem dX5_behind_15 : decode cX5_behind 15 = .ok (.iaload, 1) := by decide +kernel
theorem dX5_behind_16 : decode cX5_behind 16 = .ok (.invokevirtual 164, 3) := by decide +kernel
theorem dX5_behind_19 : decode cX5_behind 19 = .ok (.ireturn, 1) := by decide +kernel
theorem dX5_twelveBehind_0 : decode cX5_twelveBehind 0 = .ok (.aload_n 0, 1) := by decide +kernel
theorem dX5_twelveBehind_1 : decode cX5_twelveBehind 1 = .ok (.invokevirtual 161, 3) := by decide +kernel
theorem dX5_twelveBehind_4 : decode cX5_twelveBehind 4 = .ok (.aload_n 0, 1) := by decide +kernel
theorem dX5_twelveBehind_5 : decode cX5_twelveBehind 5 = .ok (.iload_n 2, 1) := by decide +kernel
theorem dX5_twelveBehind_6 : decode cX5_twelveBehind 6 = .ok (.invokevirtual 156, 3) := by decide +kernel
theorem dX5_twelveBehind_9 : decode cX5_twelveBehind 9 = .ok (.aload_n 0, 1) := by decide +kernel
theorem dX5_twelveBehind_10 : decode cX5_twelveBehind 10 = .ok (.aload_n 0, 1) := by decide +kernel
theorem dX5_twelveBehind_11 : decode cX5_twelveBehind 11 = .ok (.iload_n 1, 1) := by decide +kernel
theorem dX5_twelveBehind_12 : decode cX5_twelveBehind 12 = .ok (.invokevirtual 60, 3) := by decide +kernel
theorem dX5_twelveBehind_15 : decode cX5_twelveBehind 15 = .ok (.invokevirtual 164, 3) := by decide +kernel
theorem dX5_twelveBehind_18 : decode cX5_twelveBehind 18 = .ok (.ireturn, 1) := by decide +kernel
theorem dX5_on_0 : decode cX5_on 0 = .ok (.aload_n 0, 1) := by decide +kernel
theorem dX5_on_1 : decode cX5_on 1 = .ok (.iload_n 1, 1) := by decide +kernel
theorem dX5_on_2 : decode cX5_on 2 = .ok (.invokevirtual 100, 3) := by decide +kernel
theorem dX5_on_5 : decode cX5_on 5 = .ok (.ifCond .eq 20, 3) := by decide +kernel
theorem dX5_on_8 : decode cX5_on 8 = .ok (.iload_n 2, 1) := by decide +kernel
theorem dX5_on_9 : decode cX5_on 9 = .ok (.invokestatic 167, 3) := by decide +kernel
theorem dX5_on_12 : decode cX5_on 12 = .ok (.ifCond .eq 13, 3) := by decide +kernel
theorem dX5_on_15 : decode cX5_on 15 = .ok (.iload_n 3, 1) := by decide +kernel
theorem dX5_on_16 : decode cX5_on 16 = .ok (.i2l, 1) := by decide +kernel
theorem dX5_on_17 : decode cX5_on 17 = .ok (.lconst 0, 1) := by decide +kernel
theorem dX5_on_18 : decode cX5_on 18 = .ok (.lconst 1, 1) := by decide +kernel
theorem dX5_on_19 : decode cX5_on 19 = .ok (.invokestatic 46, 3) := by decide +kernel
theorem dX5_on_22 : decode cX5_on 22 = .ok (.ifCond .ne 10, 3) := by decide +kernel
theorem dX5_on_25 : decode cX5_on 25 = .ok (.aload_n 0, 1) := by decide +kernel
theorem dX5_on_26 : decode cX5_on 26 = .ok (.ldc 41, 2) := by decide +kernel
theorem dX5_on_28 : decode cX5_on 28 = .ok (.invokevirtual 78, 3) := by decide +kernel
theorem dX5_on_31 : decode cX5_on 31 = .ok (.ireturn, 1) := by decide +kernel
theorem dX5_on_32 : decode cX5_on 32 = .ok (.iload_n 3, 1) := by decide +kernel
theorem dX5_on_33 : decode cX5_on 33 = .ok (.ifCond .ne 16, 3) := by decide +kernel
theorem dX5_on_36 : decode cX5_on 36 = .ok (.aload_n 0, 1) := by decide +kernel
theorem dX5_on_37 : decode cX5_on 37 = .ok (.iload_n 1, 1) := by decide +kernel
theorem dX5_on_38 : decode cX5_on 38 = .ok (.iconst 2, 1) := by decide +kernel
theorem dX5_on_39 : decode cX5_on 39 = .ok (.invokestatic 42, 3) := by decide +kernel
theorem dX5_on_42 : decode cX5_on 42 = .ok (.iload_n 2, 1) := by decide +kernel
theorem dX5_on_43 : decode cX5_on 43 = .ok (.invokevirtual 170, 3) := by decide +kernel
theorem dX5_on_46 : decode cX5_on 46 = .ok (.goto 13, 3) := by decide +kernel
theorem dX5_on_49 : decode cX5_on 49 = .ok (.aload_n 0, 1) := by decide +kernel
theorem dX5_on_50 : decode cX5_on 50 = .ok (.iload_n 1, 1) := by decide +kernel
theorem dX5_on_51 : decode cX5_on 51 = .ok (.iconst 1, 1) := by decide +kernel
theorem dX5_on_52 : decode cX5_on 52 = .ok (.invokestatic 42, 3) := by decide +kernel
theorem dX5_on_55 : decode cX5_on 55 = .ok (.iload_n 2, 1) := by decide +kernel
theorem dX5_on_56 : decode cX5_on 56 = .ok (.invokevirtual 173, 3) := by decide +kernel
theorem dX5_on_59 : decode cX5_on 59 = .ok (.ireturn, 1) := by decide +kernel
theorem dX5_then_0 : decode cX5_then 0 = .ok (.iload_n 1, 1) := by decide +kernel
theorem dX5_then_1 : decode cX5_then 1 = .ok (.invokestatic 67, 3) := by decide +kernel
theorem dX5_then_4 : decode cX5_then 4 = .ok (.ifCond .eq 20, 3) := by decide +kernel
theorem dX5_then_7 : decode cX5_then 7 = .ok (.iload_n 2, 1) := by decide +kernel
theorem dX5_then_8 : decode cX5_then 8 = .ok (.invokestatic 167, 3) := by decide +kernel
theorem dX5_then_11 : decode cX5_then 11 = .ok (.ifCond .eq 13, 3) := by decide +kernel
theorem dX5_then_14 : decode cX5_then 14 = .ok (.iload_n 3, 1) := by decide +kernel
theorem dX5_then_15 : decode cX5_then 15 = .ok (.i2l, 1) := by decide +kernel
theorem dX5_then_16 : decode cX5_then 16 = .ok (.lconst 0, 1) := by decide +kernel
theorem dX5_then_17 : decode cX5_then 17 = .ok (.lconst 1, 1) := by decide +kernel
theorem dX5_then_18 : decode cX5_then 18 = .ok (.invokestatic 46, 3) := by decide +kernel
theorem dX5_then_21 : decode cX5_then 21 = .ok (.ifCond .ne 10, 3) := by decide +kernel
theorem dX5_then_24 : decode cX5_then 24 = .ok (.aload_n 0, 1) := by decide +kernel
theorem dX5_then_25 : decode cX5_then 25 = .ok (.ldc 41, 2) := by decide +kernel
theorem dX5_then_27 : decode cX5_then 27 = .ok (.invokevirtual 78, 3) := by decide +kernel
theorem dX5_then_30 : decode cX5_then 30 = .ok (.ireturn, 1) := by decide +kernel
theorem dX5_then_31 : decode cX5_then 31 = .ok (.aload_n 0, 1) := by decide +kernel
theorem dX5_then_32 : decode cX5_then 32 = .ok (.iload_n 3, 1) := by decide +kernel
theorem dX5_then_33 : decode cX5_then 33 = .ok (.ifCond .ne 8, 3) := by decide +kernel
theorem dX5_then_36 : decode cX5_then 36 = .ok (.bipush 14, 2) := by decide +kernel
theorem dX5_then_38 : decode cX5_then 38 = .ok (.goto 5, 3) := by decide +kernel
theorem dX5_then_41 : decode cX5_then 41 = .ok (.bipush 26, 2) := by decide +kernel
theorem dX5_then_43 : decode cX5_then 43 = .ok (.iload_n 1, 1) := by decide +kernel
theorem dX5_then_44 : decode cX5_then 44 = .ok (.iadd, 1) := by decide +kernel
theorem dX5_then_45 : decode cX5_then 45 = .ok (.iload_n 2, 1) := by decide +kernel
theorem dX5_then_46 : decode cX5_then 46 = .ok (.invokevirtual 173, 3) := by decide +kernel
theorem dX5_then_49 : decode cX5_then 49 = .ok (.ireturn, 1) := by decide +kernel
theorem dX5_firstAs_0 : decode cX5_firstAs 0 = .ok (.aload_n 0, 1) := by decide +kernel
theorem dX5_firstAs_1 : decode cX5_firstAs 1 = .ok (.invokevirtual 161, 3) := by decide +kernel
theorem dX5_firstAs_4 : decode cX5_firstAs 4 = .ok (.iconst 0, 1) := by decide +kernel
theorem dX5_firstAs_5 : decode cX5_firstAs 5 = .ok (.istore 4, 2) := by decide +kernel
theorem dX5_firstAs_7 : decode cX5_firstAs 7 = .ok (.iload 4, 2) := by decide +kernel
theorem dX5_firstAs_9 : decode cX5_firstAs 9 = .ok (.bipush 120, 2) := by decide +kernel
theorem dX5_firstAs_11 : decode cX5_firstAs 11 = .ok (.if_icmp .gt 25, 3) := by decide +kernel
theorem dX5_firstAs_14 : decode cX5_firstAs 14 = .ok (.iload_n 2, 1) := by decide +kernel
theorem dX5_firstAs_15 : decode cX5_firstAs 15 = .ok (.aload_n 0, 1) := by decide +kernel
theorem dX5_firstAs_16 : decode cX5_firstAs 16 = .ok (.getfield 7, 3) := by decide +kernel
theorem dX5_firstAs_19 : decode cX5_firstAs 19 = .ok (.iload_n 1, 1) := by decide +kernel
theorem dX5_firstAs_20 : decode cX5_firstAs 20 = .ok (.iaload, 1) := by decide +kernel
theorem dX5_firstAs_21 : decode cX5_firstAs 21 = .ok (.imul, 1) := by decide +kernel
theorem dX5_firstAs_22 : decode cX5_firstAs 22 = .ok (.iload_n 3, 1) := by decide +kernel
theorem dX5_firstAs_23 : decode cX5_firstAs 23 = .ok (.if_icmp .ge 13, 3) := by decide +kernel
theorem dX5_firstAs_26 : decode cX5_firstAs 26 = .ok (.aload_n 0, 1) := by decide +kernel
theorem dX5_firstAs_27 : decode cX5_firstAs 27 = .ok (.invokevirtual 151, 3) := by decide +kernel
theorem dX5_firstAs_30 : decode cX5_firstAs 30 = .ok (.iinc 4 1, 3) := by decide +kernel
theorem dX5_firstAs_33 : decode cX5_firstAs 33 = .ok (.goto (-26), 3) := by decide +kernel
theorem dX5_firstAs_36 : decode cX5_firstAs 36 = .ok (.aload_n 0, 1) := by decide +kernel
theorem dX5_firstAs_37 : decode cX5_firstAs 37 = .ok (.iload 4, 2) := by decide +kernel
theorem dX5_firstAs_39 : decode cX5_firstAs 39 = .ok (.invokevirtual 164, 3) := by decide +kernel
theorem dX5_firstAs_42 : decode cX5_firstAs 42 = .ok (.istore 5, 2) := by decide +kernel
theorem dX5_firstAs_44 : decode cX5_firstAs 44 = .ok (.iload 5, 2) := by decide +kernel
theorem dX5_firstAs_46 : decode cX5_firstAs 46 = .ok (.bipush 120, 2) := by decide +kernel
theorem dX5_firstAs_48 : decode cX5_firstAs 48 = .ok (.if_icmp .le 12, 3) := by decide +kernel
theorem dX5_firstAs_51 : decode cX5_firstAs 51 = .ok (.aload_n 0, 1) := by decide +kernel
theorem dX5_firstAs_52 : decode cX5_firstAs 52 = .ok (.ldc 176, 2) := by decide +kernel
theorem dX5_firstAs_54 : decode cX5_firstAs 54 = .ok (.invokevirtual 78, 3) := by decide +kernel
theorem dX5_firstAs_57 : decode cX5_firstAs 57 = .ok (.goto 5, 3) := by decide +kernel
theorem dX5_firstAs_60 : decode cX5_firstAs 60 = .ok (.iload 5, 2) := by decide +kernel
theorem dX5_firstAs_62 : decode cX5_firstAs 62 = .ok (.ireturn, 1) := by decide +kernel
theorem dX5_enough_0 : decode cX5_enough 0 = .ok (.iload_n 1, 1) := by decide +kernel
theorem dX5_enough_1 : decode cX5_enough 1 = .ok (.invokestatic 67, 3) := by decide +kernel
theorem dX5_enough_4 : decode cX5_enough 4 = .ok (.ifCond .eq 28, 3) := by decide +kernel
theorem dX5_enough_7 : decode cX5_enough 7 = .ok (.iload_n 2, 1) := by decide +kernel
theorem dX5_enough_8 : decode cX5_enough 8 = .ok (.i2l, 1) := by decide +kernel
theorem dX5_enough_9 : decode cX5_enough 9 = .ok (.lconst 0, 1) := by decide +kernel
theorem dX5_enough_10 : decode cX5_enough 10 = .ok (.ldc2_w 177, 3) := by decide +kernel
theorem dX5_enough_13 : decode cX5_enough 13 = .ok (.invokestatic 46, 3) := by decide +kernel
theorem dX5_enough_16 : decode cX5_enough 16 = .ok (.ifCond .eq 16, 3) := by decide +kernel
theorem dX5_enough_19 : decode cX5_enough 19 = .ok (.aload_n 0, 1) := by decide +kernel
theorem dX5_enough_20 : decode cX5_enough 20 = .ok (.bipush 14, 2) := by decide +kernel
theorem dX5_enough_22 : decode cX5_enough 22 = .ok (.iload_n 1, 1) := by decide +kernel
theorem dX5_enough_23 : decode cX5_enough 23 = .ok (.iadd, 1) := by decide +kernel
theorem dX5_enough_24 : decode cX5_enough 24 = .ok (.iconst 1, 1) := by decide +kernel
theorem dX5_enough_25 : decode cX5_enough 25 = .ok (.iload_n 2, 1) := by decide +kernel
theorem dX5_enough_26 : decode cX5_enough 26 = .ok (.invokevirtual 179, 3) := by decide +kernel
theorem dX5_enough_29 : decode cX5_enough 29 = .ok (.goto 9, 3) := by decide +kernel
theorem dX5_enough_32 : decode cX5_enough 32 = .ok (.aload_n 0, 1) := by decide +kernel
theorem dX5_enough_33 : decode cX5_enough 33 = .ok (.ldc 41, 2) := by decide +kernel
theorem dX5_enough_35 : decode cX5_enough 35 = .ok (.invokevirtual 78, 3) := by decide +kernel
theorem dX5_enough_38 : decode cX5_enough 38 = .ok (.ireturn, 1) := by decide +kernel
theorem dX5_calm_0 : decode cX5_calm 0 = .ok (.aload_n 0, 1) := by decide +kernel
theorem dX5_calm_1 : decode cX5_calm 1 = .ok (.iload_n 1, 1) := by decide +kernel
theorem dX5_calm_2 : decode cX5_calm 2 = .ok (.invokevirtual 100, 3) := by decide +kernel
theorem dX5_calm_5 : decode cX5_calm 5 = .ok (.ifCond .eq 17, 3) := by decide +kernel
theorem dX5_calm_8 : decode cX5_calm 8 = .ok (.aload_n 0, 1) := by decide +kernel
theorem dX5_calm_9 : decode cX5_calm 9 = .ok (.iload_n 1, 1) := by decide +kernel
theorem dX5_calm_10 : decode cX5_calm 10 = .ok (.iconst 1, 1) := by decide +kernel
theorem dX5_calm_11 : decode cX5_calm 11 = .ok (.invokestatic 42, 3) := by decide +kernel
theorem dX5_calm_14 : decode cX5_calm 14 = .ok (.iconst (-1), 1) := by decide +kernel
theorem dX5_calm_15 : decode cX5_calm 15 = .ok (.iconst 0, 1) := by decide +kernel
theorem dX5_calm_16 : decode cX5_calm 16 = .ok (.invokevirtual 179, 3) := by decide +kernel
theorem dX5_calm_19 : decode cX5_calm 19 = .ok (.goto 9, 3) := by decide +kernel
theorem dX5_calm_22 : decode cX5_calm 22 = .ok (.aload_n 0, 1) := by decide +kernel
theorem dX5_calm_23 : decode cX5_calm 23 = .ok (.ldc 41, 2) := by decide +kernel
theorem dX5_calm_25 : decode cX5_calm 25 = .ok (.invokevirtual 78, 3) := by decide +kernel
theorem dX5_calm_28 : decode cX5_calm 28 = .ok (.ireturn, 1) := by decide +kernel
theorem dX5_isSoon_0 : decode cX5_isSoon 0 = .ok (.iload_n 0, 1) := by decide +kernel
theorem dX5_isSoon_1 : decode cX5_isSoon 1 = .ok (.i2l, 1) := by decide +kernel
theorem dX5_isSoon_2 : decode cX5_isSoon 2 = .ok (.lconst 1, 1) := by decide +kernel
theorem dX5_isSoon_3 : decode cX5_isSoon 3 = .ok (.ldc2_w 154, 3) := by decide +kernel
theorem dX5_isSoon_6 : decode cX5_isSoon 6 = .ok (.invokestatic 46, 3) := by decide +kernel
theorem dX5_isSoon_9 : decode cX5_isSoon 9 = .ok (.ireturn, 1) := by decide +kernel
theorem dX5_kind_0 : decode cX5_kind 0 = .ok (.aload_n 0, 1) := by decide +kernel
theorem dX5_kind_1 : decode cX5_kind 1 = .ok (.iload_n 1, 1) := by decide +kernel
theorem dX5_kind_2 : decode cX5_kind 2 = .ok (.invokevirtual 100, 3) := by decide +kernel
theorem dX5_kind_5 : decode cX5_kind 5 = .ok (.ifCond .eq 10, 3) := by decide +kernel
theorem dX5_kind_8 : decode cX5_kind 8 = .ok (.iload_n 2, 1) := by decide +kernel
theorem dX5_kind_9 : decode cX5_kind 9 = .ok (.invokestatic 182, 3) := by decide +kernel
theorem dX5_kind_12 : decode cX5_kind 12 = .ok (.ifCond .ne 10, 3) := by decide +kernel
theorem dX5_kind_15 : decode cX5_kind 15 = .ok (.aload_n 0, 1) := by decide +kernel
theorem dX5_kind_16 : decode cX5_kind 16 = .ok (.ldc 41, 2) := by decide +kernel
theorem dX5_kind_18 : decode cX5_kind 18 = .ok (.invokevirtual 78, 3) := by decide +kernel
theorem dX5_kind_21 : decode cX5_kind 21 = .ok (.ireturn, 1) := by decide +kernel
theorem dX5_kind_22 : decode cX5_kind 22 = .ok (.aload_n 0, 1) := by decide +kernel
theorem dX5_kind_23 : decode cX5_kind 23 = .ok (.iload_n 1, 1) := by decide +kernel
theorem dX5_kind_24 : decode cX5_kind 24 = .ok (.iconst 0, 1) := by decide +kernel
theorem dX5_kind_25 : decode cX5_kind 25 = .ok (.invokevirtual 90, 3) := by decide +kernel
theorem dX5_kind_28 : decode cX5_kind 28 = .ok (.istore_n 3, 1) := by decide +kernel
theorem dX5_kind_29 : decode cX5_kind 29 = .ok (.iconst 0, 1) := by decide +kernel
theorem dX5_kind_30 : decode cX5_kind 30 = .ok (.istore 4, 2) := by decide +kernel
theorem dX5_kind_32 : decode cX5_kind 32 = .ok (.iconst (-1), 1) := by decide +kernel
theorem dX5_kind_33 : decode cX5_kind 33 = .ok (.istore 5, 2) := by decide +kernel
theorem dX5_kind_35 : decode cX5_kind 35 = .ok (.iconst 0, 1) := by decide +kernel
theorem dX5_kind_36 : decode cX5_kind 36 = .ok (.istore 6, 2) := by decide +kernel
theorem dX5_kind_38 : decode cX5_kind 38 = .ok (.iload 6, 2) := by decide +kernel
theorem dX5_kind_40 : decode cX5_kind 40 = .ok (.iconst 5, 1) := by decide +kernel
theorem dX5_kind_41 : decode cX5_kind 41 = .ok (.if_icmp .gt 62, 3) := by decide +kernel
theorem dX5_kind_44 : decode cX5_kind 44 = .ok (.aload_n 0, 1) := by decide +kernel
theorem dX5_kind_45 : decode cX5_kind 45 = .ok (.getfield 7, 3) := by decide +kernel
theorem dX5_kind_48 : decode cX5_kind 48 = .ok (.iload_n 1, 1) := by decide +kernel
theorem dX5_kind_49 : decode cX5_kind 49 = .ok (.iconst 0, 1) := by decide +kernel
theorem dX5_kind_50 : decode cX5_kind 50 = .ok (.invokestatic 42, 3) := by decide +kernel
theorem dX5_kind_53 : decode cX5_kind 53 = .ok (.iload 6, 2) := by decide +kernel
theorem dX5_kind_55 : decode cX5_kind 55 = .ok (.iastore, 1) := by decide +kernel
theorem dX5_kind_56 : decode cX5_kind 56 = .ok (.aload_n 0, 1) := by decide +kernel
theorem dX5_kind_57 : decode cX5_kind 57 = .ok (.bipush 14, 2) := by decide +kernel
theorem dX5_kind_59 : decode cX5_kind 59 = .ok (.iload_n 2, 1) := by decide +kernel
theorem dX5_kind_60 : decode cX5_kind 60 = .ok (.invokevirtual 170, 3) := by decide +kernel
theorem dX5_kind_63 : decode cX5_kind 63 = .ok (.istore 7, 2) := by decide +kernel
theorem dX5_kind_65 : decode cX5_kind 65 = .ok (.iload 7, 2) := by decide +kernel
theorem dX5_kind_67 : decode cX5_kind 67 = .ok (.iload 5, 2) := by decide +kernel
theorem dX5_kind_69 : decode cX5_kind 69 = .ok (.if_icmp .le 8, 3) := by decide +kernel
theorem dX5_kind_72 : decode cX5_kind 72 = .ok (.iload 6, 2) := by decide +kernel
theorem dX5_kind_74 : decode cX5_kind 74 = .ok (.goto 5, 3) := by decide +kernel
theorem dX5_kind_77 : decode cX5_kind 77 = .ok (.iload 4, 2) := by decide +kernel
theorem dX5_kind_79 : decode cX5_kind 79 = .ok (.istore 4, 2) := by decide +kernel
theorem dX5_kind_81 : decode cX5_kind 81 = .ok (.iload 7, 2) := by decide +kernel
theorem dX5_kind_83 : decode cX5_kind 83 = .ok (.iload 5, 2) := by decide +kernel
theorem dX5_kind_85 : decode cX5_kind 85 = .ok (.if_icmp .le 8, 3) := by decide +kernel
theorem dX5_kind_88 : decode cX5_kind 88 = .ok (.iload 7, 2) := by decide +kernel
theorem dX5_kind_90 : decode cX5_kind 90 = .ok (.goto 5, 3) := by decide +kernel
theorem dX5_kind_93 : decode cX5_kind 93 = .ok (.iload 5, 2) := by decide +kernel
theorem dX5_kind_95 : decode cX5_kind 95 = .ok (.istore 5, 2) := by decide +kernel
theorem dX5_kind_97 : decode cX5_kind 97 = .ok (.iinc 6 1, 3) := by decide +kernel
theorem dX5_kind_100 : decode cX5_kind 100 = .ok (.goto (-62), 3) := by decide +kernel
theorem dX5_kind_103 : decode cX5_kind 103 = .ok (.aload_n 0, 1) := by decide +kernel
theorem dX5_kind_104 : decode cX5_kind 104 = .ok (.getfield 7, 3) := by decide +kernel
theorem dX5_kind_107 : decode cX5_kind 107 = .ok (.iload_n 1, 1) := by decide +kernel
theorem dX5_kind_108 : decode cX5_kind 108 = .ok (.iconst 0, 1) := by decide +kernel
theorem dX5_kind_109 : decode cX5_kind 109 = .ok (.invokestatic 42, 3) := by decide +kernel
theorem dX5_kind_112 : decode cX5_kind 112 = .ok (.iload_n 3, 1) := by decide +kernel
theorem dX5_kind_113 : decode cX5_kind 113 = .ok (.iastore, 1) := by decide +kernel
theorem dX5_kind_114 : decode cX5_kind 114 = .ok (.iload 4, 2) := by decide +kernel
theorem dX5_kind_116 : decode cX5_kind 116 = .ok (.ireturn, 1) := by decide +kernel
theorem dX5_cold_0 : decode cX5_cold 0 = .ok (.iload_n 1, 1) := by decide +kernel
theorem dX5_cold_1 : decode cX5_cold 1 = .ok (.invokestatic 67, 3) := by decide +kernel
theorem dX5_cold_4 : decode cX5_cold 4 = .ok (.ifCond .eq 22, 3) := by decide +kernel
theorem dX5_cold_7 : decode cX5_cold 7 = .ok (.iload_n 2, 1) := by decide +kernel
theorem dX5_cold_8 : decode cX5_cold 8 = .ok (.invokestatic 182, 3) := by decide +kernel
theorem dX5_cold_11 : decode cX5_cold 11 = .ok (.ifCond .eq 15, 3) := by decide +kernel
theorem dX5_cold_14 : decode cX5_cold 14 = .ok (.iload_n 3, 1) := by decide +kernel
theorem dX5_cold_15 : decode cX5_cold 15 = .ok (.i2l, 1) := by decide +kernel
theorem dX5_cold_16 : decode cX5_cold 16 = .ok (.lconst 0, 1) := by decide +kernel
theorem dX5_cold_17 : decode cX5_cold 17 = .ok (.ldc2_w 177, 3) := by decide +kernel
theorem dX5_cold_20 : decode cX5_cold 20 = .ok (.invokestatic 46, 3) := by decide +kernel
theorem dX5_cold_23 : decode cX5_cold 23 = .ok (.ifCond .ne 10, 3) := by decide +kernel
theorem dX5_cold_26 : decode cX5_cold 26 = .ok (.aload_n 0, 1) := by decide +kernel
theorem dX5_cold_27 : decode cX5_cold 27 = .ok (.ldc 41, 2) := by decide +kernel
theorem dX5_cold_29 : decode cX5_cold 29 = .ok (.invokevirtual 78, 3) := by decide +kernel
theorem dX5_cold_32 : decode cX5_cold 32 = .ok (.ireturn, 1) := by decide +kernel
theorem dX5_cold_33 : decode cX5_cold 33 = .ok (.aload_n 0, 1) := by decide +kernel
theorem dX5_cold_34 : decode cX5_cold 34 = .ok (.getfield 7, 3) := by decide +kernel
theorem dX5_cold_37 : decode cX5_cold 37 = .ok (.iconst 2, 1) := by decide +kernel
theorem dX5_cold_38 : decode cX5_cold 38 = .ok (.iload_n 1, 1) := by decide +kernel
theorem dX5_cold_39 : decode cX5_cold 39 = .ok (.iadd, 1) := by decide +kernel
theorem dX5_cold_40 : decode cX5_cold 40 = .ok (.iaload, 1) := by decide +kernel
theorem dX5_cold_41 : decode cX5_cold 41 = .ok (.istore 4, 2) := by decide +kernel
theorem dX5_cold_43 : decode cX5_cold 43 = .ok (.bipush 21, 2) := by decide +kernel
theorem dX5_cold_45 : decode cX5_cold 45 = .ok (.istore 5, 2) := by decide +kernel
theorem dX5_cold_47 : decode cX5_cold 47 = .ok (.bipush 20, 2) := by decide +kernel
theorem dX5_cold_49 : decode cX5_cold 49 = .ok (.istore 6, 2) := by decide +kernel
theorem dX5_cold_51 : decode cX5_cold 51 = .ok (.iload 6, 2) := by decide +kernel
theorem dX5_cold_53 : decode cX5_cold 53 = .ok (.bipush (-20), 2) := by decide +kernel
theorem dX5_cold_55 : decode cX5_cold 55 = .ok (.if_icmp .lt 48, 3) := by decide +kernel
theorem dX5_cold_58 : decode cX5_cold 58 = .ok (.iload 5, 2) := by decide +kernel
theorem dX5_cold_60 : decode cX5_cold 60 = .ok (.bipush 20, 2) := by decide +kernel
theorem dX5_cold_62 : decode cX5_cold 62 = .ok (.if_icmp .le 41, 3) := by decide +kernel
theorem dX5_cold_65 : decode cX5_cold 65 = .ok (.aload_n 0, 1) := by decide +kernel
theorem dX5_cold_66 : decode cX5_cold 66 = .ok (.getfield 7, 3) := by decide +kernel
theorem dX5_cold_69 : decode cX5_cold 69 = .ok (.iconst 2, 1) := by decide +kernel
theorem dX5_cold_70 : decode cX5_cold 70 = .ok (.iload_n 1, 1) := by decide +kernel
theorem dX5_cold_71 : decode cX5_cold 71 = .ok (.iadd, 1) := by decide +kernel
theorem dX5_cold_72 : decode cX5_cold 72 = .ok (.iload 6, 2) := by decide +kernel
theorem dX5_cold_74 : decode cX5_cold 74 = .ok (.iastore, 1) := by decide +kernel
theorem dX5_cold_75 : decode cX5_cold 75 = .ok (.aload_n 0, 1) := by decide +kernel
theorem dX5_cold_76 : decode cX5_cold 76 = .ok (.bipush 14, 2) := by decide +kernel
theorem dX5_cold_78 : decode cX5_cold 78 = .ok (.iload_n 1, 1) := by decide +kernel
theorem dX5_cold_79 : decode cX5_cold 79 = .ok (.iadd, 1) := by decide +kernel
theorem dX5_cold_80 : decode cX5_cold 80 = .ok (.iload_n 2, 1) := by decide +kernel
theorem dX5_cold_81 : decode cX5_cold 81 = .ok (.invokevirtual 173, 3) := by decide +kernel
theorem dX5_cold_84 : decode cX5_cold 84 = .ok (.iload_n 3, 1) := by decide +kernel
theorem dX5_cold_85 : decode cX5_cold 85 = .ok (.if_icmp .lt 8, 3) := by decide +kernel
theorem dX5_cold_88 : decode cX5_cold 88 = .ok (.iload 6, 2) := by decide +kernel
theorem dX5_cold_90 : decode cX5_cold 90 = .ok (.goto 5, 3) := by decide +kernel
theorem dX5_cold_93 : decode cX5_cold 93 = .ok (.iload 5, 2) := by decide +kernel
theorem dX5_cold_95 : decode cX5_cold 95 = .ok (.istore 5, 2) := by decide +kernel
theorem dX5_cold_97 : decode cX5_cold 97 = .ok (.iinc 6 (-1), 3) := by decide +kernel
theorem dX5_cold_100 : decode cX5_cold 100 = .ok (.goto (-49), 3) := by decide +kernel
theorem dX5_cold_103 : decode cX5_cold 103 = .ok (.aload_n 0, 1) := by decide +kernel
theorem dX5_cold_104 : decode cX5_cold 104 = .ok (.getfield 7, 3) := by decide +kernel
theorem dX5_cold_107 : decode cX5_cold 107 = .ok (.iconst 2, 1) := by decide +kernel
theorem dX5_cold_108 : decode cX5_cold 108 = .ok (.iload_n 1, 1) := by decide +kernel
theorem dX5_cold_109 : decode cX5_cold 109 = .ok (.iadd, 1) := by decide +kernel
theorem dX5_cold_110 : decode cX5_cold 110 = .ok (.iload 4, 2) := by decide +kernel
theorem dX5_cold_112 : decode cX5_cold 112 = .ok (.iastore, 1) := by decide +kernel
theorem dX5_cold_113 : decode cX5_cold 113 = .ok (.iload 5, 2) := by decide +kernel
theorem dX5_cold_115 : decode cX5_cold 115 = .ok (.bipush 20, 2) := by decide +kernel
theorem dX5_cold_117 : decode cX5_cold 117 = .ok (.if_icmp .le 12, 3) := by decide +kernel
theorem dX5_cold_120 : decode cX5_cold 120 = .ok (.aload_n 0, 1) := by decide +kernel
theorem dX5_cold_121 : decode cX5_cold 121 = .ok (.ldc 176, 2) := by decide +kernel
theorem dX5_cold_123 : decode cX5_cold 123 = .ok (.invokevirtual 78, 3) := by decide +kernel
theorem dX5_cold_126 : decode cX5_cold 126 = .ok (.goto 5, 3) := by decide +kernel
theorem dX5_cold_129 : decode cX5_cold 129 = .ok (.iload 5, 2) := by decide +kernel
theorem dX5_cold_131 : decode cX5_cold 131 = .ok (.ireturn, 1) := by decide +kernel
theorem dX5_best_0 : decode cX5_best 0 = .ok (.iload_n 1, 1) := by decide +kernel
theorem dX5_best_1 : decode cX5_best 1 = .ok (.invokestatic 125, 3) := by decide +kernel
theorem dX5_best_4 : decode cX5_best 4 = .ok (.ifCond .eq 15, 3) := by decide +kernel
theorem dX5_best_7 : decode cX5_best 7 = .ok (.iload_n 2, 1) := by decide +kernel
theorem dX5_best_8 : decode cX5_best 8 = .ok (.i2l, 1) := by decide +kernel
theorem dX5_best_9 : decode cX5_best 9 = .ok (.lconst 1, 1) := by decide +kernel
theorem dX5_best_10 : decode cX5_best 10 = .ok (.ldc2_w 128, 3) := by decide +kernel
theorem dX5_best_13 : decode cX5_best 13 = .ok (.invokestatic 46, 3) := by decide +kernel
theorem dX5_best_16 : decode cX5_best 16 = .ok (.ifCond .ne 10, 3) := by decide +kernel
theorem dX5_best_19 : decode cX5_best 19 = .ok (.aload_n 0, 1) := by decide +kernel
theorem dX5_best_20 : decode cX5_best 20 = .ok (.ldc 41, 2) := by decide +kernel
theorem dX5_best_22 : decode cX5_best 22 = .ok (.invokevirtual 78, 3) := by decide +kernel
theorem dX5_best_25 : decode cX5_best 25 = .ok (.ireturn, 1) := by decide +kernel
theorem dX5_best_26 : decode cX5_best 26 = .ok (.iconst (-1), 1) := by decide +kernel
theorem dX5_best_27 : decode cX5_best 27 = .ok (.istore_n 3, 1) := by decide +kernel
theorem dX5_best_28 : decode cX5_best 28 = .ok (.iconst (-1), 1) := by decide +kernel
theorem dX5_best_29 : decode cX5_best 29 = .ok (.istore 4, 2) := by decide +kernel
theorem dX5_best_31 : decode cX5_best 31 = .ok (.iconst 0, 1) := by decide +kernel
theorem dX5_best_32 : decode cX5_best 32 = .ok (.istore 5, 2) := by decide +kernel
theorem dX5_best_34 : decode cX5_best 34 = .ok (.iload 5, 2) := by decide +kernel
theorem dX5_best_36 : decode cX5_best 36 = .ok (.bipush 12, 2) := by decide +kernel
theorem dX5_best_38 : decode cX5_best 38 = .ok (.if_icmp .ge 109, 3) := by decide +kernel
theorem dX5_best_41 : decode cX5_best 41 = .ok (.aload_n 0, 1) := by decide +kernel
theorem dX5_best_42 : decode cX5_best 42 = .ok (.getfield 7, 3) := by decide +kernel
theorem dX5_best_45 : decode cX5_best 45 = .ok (.bipush 14, 2) := by decide +kernel
theorem dX5_best_47 : decode cX5_best 47 = .ok (.iload 5, 2) := by decide +kernel
theorem dX5_best_49 : decode cX5_best 49 = .ok (.iadd, 1) := by decide +kernel
theorem dX5_best_50 : decode cX5_best 50 = .ok (.iaload, 1) := by decide +kernel
theorem dX5_best_51 : decode cX5_best 51 = .ok (.iload_n 2, 1) := by decide +kernel
theorem dX5_best_52 : decode cX5_best 52 = .ok (.if_icmp .lt 89, 3) := by decide +kernel
theorem dX5_best_55 : decode cX5_best 55 = .ok (.aload_n 0, 1) := by decide +kernel
theorem dX5_best_56 : decode cX5_best 56 = .ok (.getfield 7, 3) := by decide +kernel
theorem dX5_best_59 : decode cX5_best 59 = .ok (.iload_n 1, 1) := by decide +kernel
theorem dX5_best_60 : decode cX5_best 60 = .ok (.iload 5, 2) := by decide +kernel
theorem dX5_best_62 : decode cX5_best 62 = .ok (.invokestatic 122, 3) := by decide +kernel
theorem dX5_best_65 : decode cX5_best 65 = .ok (.iaload, 1) := by decide +kernel
theorem dX5_best_66 : decode cX5_best 66 = .ok (.iload_n 2, 1) := by decide +kernel
theorem dX5_best_67 : decode cX5_best 67 = .ok (.iadd, 1) := by decide +kernel
theorem dX5_best_68 : decode cX5_best 68 = .ok (.sipush 999, 3) := by decide +kernel
theorem dX5_best_71 : decode cX5_best 71 = .ok (.if_icmp .gt 70, 3) := by decide +kernel
theorem dX5_best_74 : decode cX5_best 74 = .ok (.aload_n 0, 1) := by decide +kernel
theorem dX5_best_75 : decode cX5_best 75 = .ok (.getfield 7, 3) := by decide +kernel
theorem dX5_best_78 : decode cX5_best 78 = .ok (.iload_n 1, 1) := by decide +kernel
theorem dX5_best_79 : decode cX5_best 79 = .ok (.iload 5, 2) := by decide +kernel
theorem dX5_best_81 : decode cX5_best 81 = .ok (.invokestatic 122, 3) := by decide +kernel
theorem dX5_best_84 : decode cX5_best 84 = .ok (.dup2, 1) := by decide +kernel
theorem dX5_best_85 : decode cX5_best 85 = .ok (.iaload, 1) := by decide +kernel
theorem dX5_best_86 : decode cX5_best 86 = .ok (.iload_n 2, 1) := by decide +kernel
theorem dX5_best_87 : decode cX5_best 87 = .ok (.iadd, 1) := by decide +kernel
theorem dX5_best_88 : decode cX5_best 88 = .ok (.iastore, 1) := by decide +kernel
theorem dX5_best_89 : decode cX5_best 89 = .ok (.aload_n 0, 1) := by decide +kernel
theorem dX5_best_90 : decode cX5_best 90 = .ok (.iload_n 1, 1) := by decide +kernel
theorem dX5_best_91 : decode cX5_best 91 = .ok (.invokevirtual 135, 3) := by decide +kernel
theorem dX5_best_94 : decode cX5_best 94 = .ok (.istore 6, 2) := by decide +kernel
theorem dX5_best_96 : decode cX5_best 96 = .ok (.aload_n 0, 1) := by decide +kernel
theorem dX5_best_97 : decode cX5_best 97 = .ok (.getfield 7, 3) := by decide +kernel
theorem dX5_best_100 : decode cX5_best 100 = .ok (.iload_n 1, 1) := by decide +kernel
theorem dX5_best_101 : decode cX5_best 101 = .ok (.iload 5, 2) := by decide +kernel
theorem dX5_best_103 : decode cX5_best 103 = .ok (.invokestatic 122, 3) := by decide +kernel
theorem dX5_best_106 : decode cX5_best 106 = .ok (.dup2, 1) := by decide +kernel
theorem dX5_best_107 : decode cX5_best 107 = .ok (.iaload, 1) := by decide +kernel
theorem dX5_best_108 : decode cX5_best 108 = .ok (.iload_n 2, 1) := by decide +kernel
theorem dX5_best_109 : decode cX5_best 109 = .ok (.isub, 1) := by decide +kernel
theorem dX5_best_110 : decode cX5_best 110 = .ok (.iastore, 1) := by decide +kernel
theorem dX5_best_111 : decode cX5_best 111 = .ok (.iload 6, 2) := by decide +kernel
theorem dX5_best_113 : decode cX5_best 113 = .ok (.iload 4, 2) := by decide +kernel
theorem dX5_best_115 : decode cX5_best 115 = .ok (.if_icmp .le 8, 3) := by decide +kernel
theorem dX5_best_118 : decode cX5_best 118 = .ok (.iload 5, 2) := by decide +kernel
theorem dX5_best_120 : decode cX5_best 120 = .ok (.goto 4, 3) := by decide +kernel
theorem dX5_best_123 : decode cX5_best 123 = .ok (.iload_n 3, 1) := by decide +kernel
theorem dX5_best_124 : decode cX5_best 124 = .ok (.istore_n 3, 1) := by decide +kernel
theorem dX5_best_125 : decode cX5_best 125 = .ok (.iload 6, 2) := by decide +kernel
theorem dX5_best_127 : decode cX5_best 127 = .ok (.iload 4, 2) := by decide +kernel
theorem dX5_best_129 : decode cX5_best 129 = .ok (.if_icmp .le 8, 3) := by decide +kernel
theorem dX5_best_132 : decode cX5_best 132 = .ok (.iload 6, 2) := by decide +kernel
theorem dX5_best_134 : decode cX5_best 134 = .ok (.goto 5, 3) := by decide +kernel
theorem dX5_best_137 : decode cX5_best 137 = .ok (.iload 4, 2) := by decide +kernel
theorem dX5_best_139 : decode cX5_best 139 = .ok (.istore 4, 2) := by decide +kernel
theorem dX5_best_141 : decode cX5_best 141 = .ok (.iinc 5 1, 3) := by decide +kernel
theorem dX5_best_144 : decode cX5_best 144 = .ok (.goto (-110), 3) := by decide +kernel
theorem dX5_best_147 : decode cX5_best 147 = .ok (.iload_n 3, 1) := by decide +kernel
theorem dX5_best_148 : decode cX5_best 148 = .ok (.ifCond .ge 12, 3) := by decide +kernel
theorem dX5_best_151 : decode cX5_best 151 = .ok (.aload_n 0, 1) := by decide +kernel
theorem dX5_best_152 : decode cX5_best 152 = .ok (.ldc 176, 2) := by decide +kernel
theorem dX5_best_154 : decode cX5_best 154 = .ok (.invokevirtual 78, 3) := by decide +kernel
theorem dX5_best_157 : decode cX5_best 157 = .ok (.goto 4, 3) := by decide +kernel
theorem dX5_best_160 : decode cX5_best 160 = .ok (.iload_n 3, 1) := by decide +kernel
theorem dX5_best_161 : decode cX5_best 161 = .ok (.ireturn, 1) := by decide +kernel
theorem dX5_bears_0 : decode cX5_bears 0 = .ok (.aload_n 0, 1) := by decide +kernel
theorem dX5_bears_1 : decode cX5_bears 1 = .ok (.iload_n 1, 1) := by decide +kernel
theorem dX5_bears_2 : decode cX5_bears 2 = .ok (.invokevirtual 100, 3) := by decide +kernel
theorem dX5_bears_5 : decode cX5_bears 5 = .ok (.ifCond .eq 27, 3) := by decide +kernel
theorem dX5_bears_8 : decode cX5_bears 8 = .ok (.iload_n 2, 1) := by decide +kernel
theorem dX5_bears_9 : decode cX5_bears 9 = .ok (.i2l, 1) := by decide +kernel
theorem dX5_bears_10 : decode cX5_bears 10 = .ok (.lconst 0, 1) := by decide +kernel
theorem dX5_bears_11 : decode cX5_bears 11 = .ok (.ldc2_w 154, 3) := by decide +kernel
theorem dX5_bears_14 : decode cX5_bears 14 = .ok (.invokestatic 46, 3) := by decide +kernel
theorem dX5_bears_17 : decode cX5_bears 17 = .ok (.ifCond .eq 15, 3) := by decide +kernel
theorem dX5_bears_20 : decode cX5_bears 20 = .ok (.iload_n 3, 1) := by decide +kernel
theorem dX5_bears_21 : decode cX5_bears 21 = .ok (.i2l, 1) := by decide +kernel
theorem dX5_bears_22 : decode cX5_bears 22 = .ok (.lconst 0, 1) := by decide +kernel
theorem dX5_bears_23 : decode cX5_bears 23 = .ok (.ldc2_w 185, 3) := by decide +kernel
theorem dX5_bears_26 : decode cX5_bears 26 = .ok (.invokestatic 46, 3) := by decide +kernel
theorem dX5_bears_29 : decode cX5_bears 29 = .ok (.ifCond .ne 10, 3) := by decide +kernel
theorem dX5_bears_32 : decode cX5_bears 32 = .ok (.aload_n 0, 1) := by decide +kernel
theorem dX5_bears_33 : decode cX5_bears 33 = .ok (.ldc 41, 2) := by decide +kernel
theorem dX5_bears_35 : decode cX5_bears 35 = .ok (.invokevirtual 78, 3) := by decide +kernel
theorem dX5_bears_38 : decode cX5_bears 38 = .ok (.ireturn, 1) := by decide +kernel
theorem dX5_bears_39 : decode cX5_bears 39 = .ok (.aload_n 0, 1) := by decide +kernel
theorem dX5_bears_40 : decode cX5_bears 40 = .ok (.iload_n 1, 1) := by decide +kernel
theorem dX5_bears_41 : decode cX5_bears 41 = .ok (.iconst 1, 1) := by decide +kernel
theorem dX5_bears_42 : decode cX5_bears 42 = .ok (.invokevirtual 90, 3) := by decide +kernel
theorem dX5_bears_45 : decode cX5_bears 45 = .ok (.istore 4, 2) := by decide +kernel
theorem dX5_bears_47 : decode cX5_bears 47 = .ok (.iconst (-1), 1) := by decide +kernel
theorem dX5_bears_48 : decode cX5_bears 48 = .ok (.istore 5, 2) := by decide +kernel
theorem dX5_bears_50 : decode cX5_bears 50 = .ok (.bipush 99, 2) := by decide +kernel
theorem dX5_bears_52 : decode cX5_bears 52 = .ok (.istore 6, 2) := by decide +kernel
theorem dX5_bears_54 : decode cX5_bears 54 = .ok (.iload 6, 2) := by decide +kernel
theorem dX5_bears_56 : decode cX5_bears 56 = .ok (.ifCond .lt 48, 3) := by decide +kernel
theorem dX5_bears_59 : decode cX5_bears 59 = .ok (.iload 5, 2) := by decide +kernel
theorem dX5_bears_61 : decode cX5_bears 61 = .ok (.ifCond .ge 43, 3) := by decide +kernel
theorem dX5_bears_64 : decode cX5_bears 64 = .ok (.aload_n 0, 1) := by decide +kernel
theorem dX5_bears_65 : decode cX5_bears 65 = .ok (.getfield 7, 3) := by decide +kernel
theorem dX5_bears_68 : decode cX5_bears 68 = .ok (.iload_n 1, 1) := by decide +kernel
theorem dX5_bears_69 : decode cX5_bears 69 = .ok (.iconst 1, 1) := by decide +kernel
theorem dX5_bears_70 : decode cX5_bears 70 = .ok (.invokestatic 42, 3) := by decide +kernel
theorem dX5_bears_73 : decode cX5_bears 73 = .ok (.iload 6, 2) := by decide +kernel
theorem dX5_bears_75 : decode cX5_bears 75 = .ok (.iastore, 1) := by decide +kernel
theorem dX5_bears_76 : decode cX5_bears 76 = .ok (.aload_n 0, 1) := by decide +kernel
theorem dX5_bears_77 : decode cX5_bears 77 = .ok (.iload_n 1, 1) := by decide +kernel
theorem dX5_bears_78 : decode cX5_bears 78 = .ok (.iconst 2, 1) := by decide +kernel
theorem dX5_bears_79 : decode cX5_bears 79 = .ok (.invokestatic 42, 3) := by decide +kernel
theorem dX5_bears_82 : decode cX5_bears 82 = .ok (.iload_n 2, 1) := by decide +kernel
theorem dX5_bears_83 : decode cX5_bears 83 = .ok (.invokevirtual 170, 3) := by decide +kernel
theorem dX5_bears_86 : decode cX5_bears 86 = .ok (.iload_n 3, 1) := by decide +kernel
theorem dX5_bears_87 : decode cX5_bears 87 = .ok (.if_icmp .lt 8, 3) := by decide +kernel
theorem dX5_bears_90 : decode cX5_bears 90 = .ok (.iload 6, 2) := by decide +kernel
theorem dX5_bears_92 : decode cX5_bears 92 = .ok (.goto 4, 3) := by decide +kernel
theorem dX5_bears_95 : decode cX5_bears 95 = .ok (.iconst (-1), 1) := by decide +kernel
theorem dX5_bears_96 : decode cX5_bears 96 = .ok (.istore 5, 2) := by decide +kernel
theorem dX5_bears_98 : decode cX5_bears 98 = .ok (.iinc 6 (-1), 3) := by decide +kernel
theorem dX5_bears_101 : decode cX5_bears 101 = .ok (.goto (-47), 3) := by decide +kernel
theorem dX5_bears_104 : decode cX5_bears 104 = .ok (.aload_n 0, 1) := by decide +kernel
theorem dX5_bears_105 : decode cX5_bears 105 = .ok (.getfield 7, 3) := by decide +kernel
theorem dX5_bears_108 : decode cX5_bears 108 = .ok (.iload_n 1, 1) := by decide +kernel
theorem dX5_bears_109 : decode cX5_bears 109 = .ok (.iconst 1, 1) := by decide +kernel
theorem dX5_bears_110 : decode cX5_bears 110 = .ok (.invokestatic 42, 3) := by decide +kernel
theorem dX5_bears_113 : decode cX5_bears 113 = .ok (.iload 4, 2) := by decide +kernel
theorem dX5_bears_115 : decode cX5_bears 115 = .ok (.iastore, 1) := by decide +kernel
theorem dX5_bears_116 : decode cX5_bears 116 = .ok (.iload 5, 2) := by decide +kernel
theorem dX5_bears_118 : decode cX5_bears 118 = .ok (.ifCond .ge 12, 3) := by decide +kernel
theorem dX5_bears_121 : decode cX5_bears 121 = .ok (.aload_n 0, 1) := by decide +kernel
theorem dX5_bears_122 : decode cX5_bears 122 = .ok (.ldc 176, 2) := by decide +kernel
theorem dX5_bears_124 : decode cX5_bears 124 = .ok (.invokevirtual 78, 3) := by decide +kernel
theorem dX5_bears_127 : decode cX5_bears 127 = .ok (.goto 5, 3) := by decide +kernel
theorem dX5_bears_130 : decode cX5_bears 130 = .ok (.iload 5, 2) := by decide +kernel
theorem dX5_bears_132 : decode cX5_bears 132 = .ok (.ireturn, 1) := by decide +kernel
theorem dX5_milder_0 : decode cX5_milder 0 = .ok (.iload_n 1, 1) := by decide +kernel
theorem dX5_milder_1 : decode cX5_milder 1 = .ok (.invokestatic 182, 3) := by decide +kernel
theorem dX5_milder_4 : decode cX5_milder 4 = .ok (.ifCond .ne 10, 3) := by decide +kernel
theorem dX5_milder_7 : decode cX5_milder 7 = .ok (.aload_n 0, 1) := by decide +kernel
theorem dX5_milder_8 : decode cX5_milder 8 = .ok (.ldc 41, 2) := by decide +kernel
theorem dX5_milder_10 : decode cX5_milder 10 = .ok (.invokevirtual 78, 3) := by decide +kernel
theorem dX5_milder_13 : decode cX5_milder 13 = .ok (.ireturn, 1) := by decide +kernel
theorem dX5_milder_14 : decode cX5_milder 14 = .ok (.iconst 0, 1) := by decide +kernel
theorem dX5_milder_15 : decode cX5_milder 15 = .ok (.istore_n 2, 1) := by decide +kernel
theorem dX5_milder_16 : decode cX5_milder 16 = .ok (.ldc 187, 2) := by decide +kernel
theorem dX5_milder_18 : decode cX5_milder 18 = .ok (.istore_n 3, 1) := by decide +kernel
theorem dX5_milder_19 : decode cX5_milder 19 = .ok (.iconst 0, 1) := by decide +kernel
theorem dX5_milder_20 : decode cX5_milder 20 = .ok (.istore 4, 2) := by decide +kernel
theorem dX5_milder_22 : decode cX5_milder 22 = .ok (.iload 4, 2) := by decide +kernel
theorem dX5_milder_24 : decode cX5_milder 24 = .ok (.bipush 12, 2) := by decide +kernel
theorem dX5_milder_26 : decode cX5_milder 26 = .ok (.if_icmp .ge 81, 3) := by decide +kernel
theorem dX5_milder_29 : decode cX5_milder 29 = .ok (.aload_n 0, 1) := by decide +kernel
theorem dX5_milder_30 : decode cX5_milder 30 = .ok (.iconst 2, 1) := by decide +kernel
theorem dX5_milder_31 : decode cX5_milder 31 = .ok (.iload 4, 2) := by decide +kernel
theorem dX5_milder_33 : decode cX5_milder 33 = .ok (.iadd, 1) := by decide +kernel
theorem dX5_milder_34 : decode cX5_milder 34 = .ok (.aload_n 0, 1) := by decide +kernel
theorem dX5_milder_35 : decode cX5_milder 35 = .ok (.getfield 7, 3) := by decide +kernel
theorem dX5_milder_38 : decode cX5_milder 38 = .ok (.iconst 2, 1) := by decide +kernel
theorem dX5_milder_39 : decode cX5_milder 39 = .ok (.iload 4, 2) := by decide +kernel
theorem dX5_milder_41 : decode cX5_milder 41 = .ok (.iadd, 1) := by decide +kernel
theorem dX5_milder_42 : decode cX5_milder 42 = .ok (.iaload, 1) := by decide +kernel
theorem dX5_milder_43 : decode cX5_milder 43 = .ok (.iconst 5, 1) := by decide +kernel
theorem dX5_milder_44 : decode cX5_milder 44 = .ok (.iadd, 1) := by decide +kernel
theorem dX5_milder_45 : decode cX5_milder 45 = .ok (.bipush 20, 2) := by decide +kernel
theorem dX5_milder_47 : decode cX5_milder 47 = .ok (.invokestatic 144, 3) := by decide +kernel
theorem dX5_milder_50 : decode cX5_milder 50 = .ok (.invokevirtual 75, 3) := by decide +kernel
theorem dX5_milder_53 : decode cX5_milder 53 = .ok (.istore 5, 2) := by decide +kernel
theorem dX5_milder_55 : decode cX5_milder 55 = .ok (.aload_n 0, 1) := by decide +kernel
theorem dX5_milder_56 : decode cX5_milder 56 = .ok (.bipush 26, 2) := by decide +kernel
theorem dX5_milder_58 : decode cX5_milder 58 = .ok (.iload_n 1, 1) := by decide +kernel
theorem dX5_milder_59 : decode cX5_milder 59 = .ok (.invokevirtual 170, 3) := by decide +kernel
theorem dX5_milder_62 : decode cX5_milder 62 = .ok (.istore 6, 2) := by decide +kernel
theorem dX5_milder_64 : decode cX5_milder 64 = .ok (.aload_n 0, 1) := by decide +kernel
theorem dX5_milder_65 : decode cX5_milder 65 = .ok (.getfield 7, 3) := by decide +kernel
theorem dX5_milder_68 : decode cX5_milder 68 = .ok (.iconst 2, 1) := by decide +kernel
theorem dX5_milder_69 : decode cX5_milder 69 = .ok (.iload 4, 2) := by decide +kernel
theorem dX5_milder_71 : decode cX5_milder 71 = .ok (.iadd, 1) := by decide +kernel
theorem dX5_milder_72 : decode cX5_milder 72 = .ok (.iload 5, 2) := by decide +kernel
theorem dX5_milder_74 : decode cX5_milder 74 = .ok (.iastore, 1) := by decide +kernel
theorem dX5_milder_75 : decode cX5_milder 75 = .ok (.iload 6, 2) := by decide +kernel
theorem dX5_milder_77 : decode cX5_milder 77 = .ok (.iload_n 3, 1) := by decide +kernel
theorem dX5_milder_78 : decode cX5_milder 78 = .ok (.if_icmp .ge 8, 3) := by decide +kernel
theorem dX5_milder_81 : decode cX5_milder 81 = .ok (.iload 4, 2) := by decide +kernel
theorem dX5_milder_83 : decode cX5_milder 83 = .ok (.goto 4, 3) := by decide +kernel
theorem dX5_milder_86 : decode cX5_milder 86 = .ok (.iload_n 2, 1) := by decide +kernel
theorem dX5_milder_87 : decode cX5_milder 87 = .ok (.istore_n 2, 1) := by decide +kernel
theorem dX5_milder_88 : decode cX5_milder 88 = .ok (.iload 6, 2) := by decide +kernel
theorem dX5_milder_90 : decode cX5_milder 90 = .ok (.iload_n 3, 1) := by decide +kernel
theorem dX5_milder_91 : decode cX5_milder 91 = .ok (.if_icmp .ge 8, 3) := by decide +kernel
theorem dX5_milder_94 : decode cX5_milder 94 = .ok (.iload 6, 2) := by decide +kernel
theorem dX5_milder_96 : decode cX5_milder 96 = .ok (.goto 4, 3) := by decide +kernel
theorem dX5_milder_99 : decode cX5_milder 99 = .ok (.iload_n 3, 1) := by decide +kernel
theorem dX5_milder_100 : decode cX5_milder 100 = .ok (.istore_n 3, 1) := by decide +kernel
theorem dX5_milder_101 : decode cX5_milder 101 = .ok (.iinc 4 1, 3) := by decide +kernel
theorem dX5_milder_104 : decode cX5_milder 104 = .ok (.goto (-82), 3) := by decide +kernel
theorem dX5_milder_107 : decode cX5_milder 107 = .ok (.iload_n 2, 1) := by decide +kernel
theorem dX5_milder_108 : decode cX5_milder 108 = .ok (.ireturn, 1) := by decide +kernel
theorem dX5_warmest_0 : decode cX5_warmest 0 = .ok (.iconst 0, 1) := by decide +kernel
theorem dX5_warmest_1 : decode cX5_warmest 1 = .ok (.istore_n 1, 1) := by decide +kernel
theorem dX5_warmest_2 : decode cX5_warmest 2 = .ok (.iconst 1, 1) := by decide +kernel
theorem dX5_warmest_3 : decode cX5_warmest 3 = .ok (.istore_n 2, 1) := by decide +kernel
theorem dX5_warmest_4 : decode cX5_warmest 4 = .ok (.iload_n 2, 1) := by decide +kernel
theorem dX5_warmest_5 : decode cX5_warmest 5 = .ok (.iconst 4, 1) := by decide +kernel
theorem dX5_warmest_6 : decode cX5_warmest 6 = .ok (.if_icmp .ge 28, 3) := by decide +kernel
theorem dX5_warmest_9 : decode cX5_warmest 9 = .ok (.aload_n 0, 1) := by decide +kernel
theorem dX5_warmest_10 : decode cX5_warmest 10 = .ok (.iload_n 2, 1) := by decide +kernel
theorem dX5_warmest_11 : decode cX5_warmest 11 = .ok (.invokevirtual 135, 3) := by decide +kernel
theorem dX5_warmest_14 : decode cX5_warmest 14 = .ok (.aload_n 0, 1) := by decide +kernel
theorem dX5_warmest_15 : decode cX5_warmest 15 = .ok (.iload_n 1, 1) := by decide +kernel
theorem dX5_warmest_16 : decode cX5_warmest 16 = .ok (.invokevirtual 135, 3) := by decide +kernel
theorem dX5_warmest_19 : decode cX5_warmest 19 = .ok (.if_icmp .le 7, 3) := by decide +kernel
theorem dX5_warmest_22 : decode cX5_warmest 22 = .ok (.iload_n 2, 1) := by decide +kernel
theorem dX5_warmest_23 : decode cX5_warmest 23 = .ok (.goto 4, 3) := by decide +kernel
theorem dX5_warmest_26 : decode cX5_warmest 26 = .ok (.iload_n 1, 1) := by decide +kernel
theorem dX5_warmest_27 : decode cX5_warmest 27 = .ok (.istore_n 1, 1) := by decide +kernel
theorem dX5_warmest_28 : decode cX5_warmest 28 = .ok (.iinc 2 1, 3) := by decide +kernel
theorem dX5_warmest_31 : decode cX5_warmest 31 = .ok (.goto (-27), 3) := by decide +kernel
theorem dX5_warmest_34 : decode cX5_warmest 34 = .ok (.iload_n 1, 1) := by decide +kernel
theorem dX5_warmest_35 : decode cX5_warmest 35 = .ok (.ireturn, 1) := by decide +kernel
theorem dX5_feed_0 : decode cX5_feed 0 = .ok (.iload_n 2, 1) := by decide +kernel
theorem dX5_feed_1 : decode cX5_feed 1 = .ok (.i2l, 1) := by decide +kernel
theorem dX5_feed_2 : decode cX5_feed 2 = .ok (.lconst 1, 1) := by decide +kernel
theorem dX5_feed_3 : decode cX5_feed 3 = .ok (.ldc2_w 188, 3) := by decide +kernel
theorem dX5_feed_6 : decode cX5_feed 6 = .ok (.invokestatic 46, 3) := by decide +kernel
theorem dX5_feed_9 : decode cX5_feed 9 = .ok (.ifCond .ne 10, 3) := by decide +kernel
theorem dX5_feed_12 : decode cX5_feed 12 = .ok (.aload_n 0, 1) := by decide +kernel
theorem dX5_feed_13 : decode cX5_feed 13 = .ok (.ldc 41, 2) := by decide +kernel
theorem dX5_feed_15 : decode cX5_feed 15 = .ok (.invokevirtual 78, 3) := by decide +kernel
theorem dX5_feed_18 : decode cX5_feed 18 = .ok (.ireturn, 1) := by decide +kernel
theorem dX5_feed_19 : decode cX5_feed 19 = .ok (.aload_n 0, 1) := by decide +kernel
theorem dX5_feed_20 : decode cX5_feed 20 = .ok (.getfield 190, 3) := by decide +kernel
theorem dX5_feed_23 : decode cX5_feed 23 = .ok (.iload_n 2, 1) := by decide +kernel
theorem dX5_feed_24 : decode cX5_feed 24 = .ok (.iadd, 1) := by decide +kernel
theorem dX5_feed_25 : decode cX5_feed 25 = .ok (.bipush 120, 2) := by decide +kernel
theorem dX5_feed_27 : decode cX5_feed 27 = .ok (.if_icmp .le 10, 3) := by decide +kernel
theorem dX5_feed_30 : decode cX5_feed 30 = .ok (.aload_n 0, 1) := by decide +kernel
theorem dX5_feed_31 : decode cX5_feed 31 = .ok (.ldc 96, 2) := by decide +kernel
theorem dX5_feed_33 : decode cX5_feed 33 = .ok (.invokevirtual 78, 3) := by decide +kernel
theorem dX5_feed_36 : decode cX5_feed 36 = .ok (.ireturn, 1) := by decide +kernel
theorem dX5_feed_37 : decode cX5_feed 37 = .ok (.iload_n 2, 1) := by decide +kernel
theorem dX5_feed_38 : decode cX5_feed 38 = .ok (.iconst 1, 1) := by decide +kernel
theorem dX5_feed_39 : decode cX5_feed 39 = .ok (.isub, 1) := by decide +kernel
theorem dX5_feed_40 : decode cX5_feed 40 = .ok (.istore_n 3, 1) := by decide +kernel
theorem dX5_feed_41 : decode cX5_feed 41 = .ok (.iload_n 3, 1) := by decide +kernel
theorem dX5_feed_42 : decode cX5_feed 42 = .ok (.ifCond .lt 38, 3) := by decide +kernel
theorem dX5_feed_45 : decode cX5_feed 45 = .ok (.aload_n 0, 1) := by decide +kernel
theorem dX5_feed_46 : decode cX5_feed 46 = .ok (.getfield 25, 3) := by decide +kernel
theorem dX5_feed_49 : decode cX5_feed 49 = .ok (.aload_n 0, 1) := by decide +kernel
theorem dX5_feed_50 : decode cX5_feed 50 = .ok (.getfield 190, 3) := by decide +kernel
theorem dX5_feed_53 : decode cX5_feed 53 = .ok (.iload_n 1, 1) := by decide +kernel
theorem dX5_feed_54 : decode cX5_feed 54 = .ok (.bipush 8, 2) := by decide +kernel
theorem dX5_feed_56 : decode cX5_feed 56 = .ok (.iload_n 3, 1) := by decide +kernel
theorem dX5_feed_57 : decode cX5_feed 57 = .ok (.imul, 1) := by decide +kernel
theorem dX5_feed_58 : decode cX5_feed 58 = .ok (.ishr, 1) := by decide +kernel
theorem dX5_feed_59 : decode cX5_feed 59 = .ok (.sipush 255, 3) := by decide +kernel
theorem dX5_feed_62 : decode cX5_feed 62 = .ok (.iand, 1) := by decide +kernel
theorem dX5_feed_63 : decode cX5_feed 63 = .ok (.iastore, 1) := by decide +kernel
theorem dX5_feed_64 : decode cX5_feed 64 = .ok (.aload_n 0, 1) := by decide +kernel
theorem dX5_feed_65 : decode cX5_feed 65 = .ok (.dup, 1) := by decide +kernel
theorem dX5_feed_66 : decode cX5_feed 66 = .ok (.getfield 190, 3) := by decide +kernel
theorem dX5_feed_69 : decode cX5_feed 69 = .ok (.iconst 1, 1) := by decide +kernel
theorem dX5_feed_70 : decode cX5_feed 70 = .ok (.iadd, 1) := by decide +kernel
theorem dX5_feed_71 : decode cX5_feed 71 = .ok (.putfield 190, 3) := by decide +kernel
theorem dX5_feed_74 : decode cX5_feed 74 = .ok (.iinc 3 (-1), 3) := by decide +kernel
theorem dX5_feed_77 : decode cX5_feed 77 = .ok (.goto (-36), 3) := by decide +kernel
theorem dX5_feed_80 : decode cX5_feed 80 = .ok (.aload_n 0, 1) := by decide +kernel
theorem dX5_feed_81 : decode cX5_feed 81 = .ok (.getfield 190, 3) := by decide +kernel
theorem dX5_feed_84 : decode cX5_feed 84 = .ok (.ireturn, 1) := by decide +kernel
theorem dX5_wipe_0 : decode cX5_wipe 0 = .ok (.aload_n 0, 1) := by decide +kernel
theorem dX5_wipe_1 : decode cX5_wipe 1 = .ok (.getfield 190, 3) := by decide +kernel
theorem dX5_wipe_4 : decode cX5_wipe 4 = .ok (.istore_n 1, 1) := by decide +kernel
theorem dX5_wipe_5 : decode cX5_wipe 5 = .ok (.aload_n 0, 1) := by decide +kernel
theorem dX5_wipe_6 : decode cX5_wipe 6 = .ok (.iconst 0, 1) := by decide +kernel
theorem dX5_wipe_7 : decode cX5_wipe 7 = .ok (.putfield 190, 3) := by decide +kernel
theorem dX5_wipe_10 : decode cX5_wipe 10 = .ok (.iload_n 1, 1) := by decide +kernel
theorem dX5_wipe_11 : decode cX5_wipe 11 = .ok (.ireturn, 1) := by decide +kernel
theorem dX5_byteAt_0 : decode cX5_byteAt 0 = .ok (.iload_n 1, 1) := by decide +kernel
theorem dX5_byteAt_1 : decode cX5_byteAt 1 = .ok (.aload_n 0, 1) := by decide +kernel
theorem dX5_byteAt_2 : decode cX5_byteAt 2 = .ok (.getfield 190, 3) := by decide +kernel
theorem dX5_byteAt_5 : decode cX5_byteAt 5 = .ok (.if_icmp .ge 12, 3) := by decide +kernel
theorem dX5_byteAt_8 : decode cX5_byteAt 8 = .ok (.aload_n 0, 1) := by decide +kernel
theorem dX5_byteAt_9 : decode cX5_byteAt 9 = .ok (.getfield 25, 3) := by decide +kernel
theorem dX5_byteAt_12 : decode cX5_byteAt 12 = .ok (.iload_n 1, 1) := by decide +kernel
theorem dX5_byteAt_13 : decode cX5_byteAt 13 = .ok (.iaload, 1) := by decide +kernel
theorem dX5_byteAt_14 : decode cX5_byteAt 14 = .ok (.goto 4, 3) := by decide +kernel
theorem dX5_byteAt_17 : decode cX5_byteAt 17 = .ok (.iconst (-1), 1) := by decide +kernel
theorem dX5_byteAt_18 : decode cX5_byteAt 18 = .ok (.ireturn, 1) := by decide +kernel
theorem dX5_isLetter_0 : decode cX5_isLetter 0 = .ok (.iload_n 0, 1) := by decide +kernel
theorem dX5_isLetter_1 : decode cX5_isLetter 1 = .ok (.i2l, 1) := by decide +kernel
theorem dX5_isLetter_2 : decode cX5_isLetter 2 = .ok (.ldc2_w 194, 3) := by decide +kernel
theorem dX5_isLetter_5 : decode cX5_isLetter 5 = .ok (.ldc2_w 196, 3) := by decide +kernel
theorem dX5_isLetter_8 : decode cX5_isLetter 8 = .ok (.invokestatic 46, 3) := by decide +kernel
theorem dX5_isLetter_11 : decode cX5_isLetter 11 = .ok (.ireturn, 1) := by decide +kernel
theorem dX5_isDigit_0 : decode cX5_isDigit 0 = .ok (.iload_n 0, 1) := by decide +kernel
theorem dX5_isDigit_1 : decode cX5_isDigit 1 = .ok (.i2l, 1) := by decide +kernel
theorem dX5_isDigit_2 : decode cX5_isDigit 2 = .ok (.ldc2_w 198, 3) := by decide +kernel
theorem dX5_isDigit_5 : decode cX5_isDigit 5 = .ok (.ldc2_w 200, 3) := by decide +kernel
theorem dX5_isDigit_8 : decode cX5_isDigit 8 = .ok (.invokestatic 46, 3) := by decide +kernel
theorem dX5_isDigit_11 : decode cX5_isDigit 11 = .ok (.ireturn, 1) := by decide +kernel
theorem dX5_token_0 : decode cX5_token 0 = .ok (.aload_n 0, 1) := by decide +kernel
theorem dX5_token_1 : decode cX5_token 1 = .ok (.aload_n 0, 1) := by decide +kernel
theorem dX5_token_2 : decode cX5_token 2 = .ok (.getfield 202, 3) := by decide +kernel
theorem dX5_token_5 : decode cX5_token 5 = .ok (.putfield 205, 3) := by decide +kernel
theorem dX5_token_8 : decode cX5_token 8 = .ok (.aload_n 0, 1) := by decide +kernel
theorem dX5_token_9 : decode cX5_token 9 = .ok (.aload_n 0, 1) := by decide +kernel
theorem dX5_token_10 : decode cX5_token 10 = .ok (.getfield 205, 3) := by decide +kernel
theorem dX5_token_13 : decode cX5_token 13 = .ok (.invokevirtual 208, 3) := by decide +kernel
theorem dX5_token_16 : decode cX5_token 16 = .ok (.bipush 32, 2) := by decide +kernel
theorem dX5_token_18 : decode cX5_token 18 = .ok (.if_icmp .ne 16, 3) := by decide +kernel
theorem dX5_token_21 : decode cX5_token 21 = .ok (.aload_n 0, 1) := by decide +kernel
theorem dX5_token_22 : decode cX5_token 22 = .ok (.dup, 1) := by decide +kernel
theorem dX5_token_23 : decode cX5_token 23 = .ok (.getfield 205, 3) := by decide +kernel
theorem dX5_token_26 : decode cX5_token 26 = .ok (.iconst 1, 1) := by decide +kernel
theorem dX5_token_27 : decode cX5_token 27 = .ok (.iadd, 1) := by decide +kernel
theorem dX5_token_28 : decode cX5_token 28 = .ok (.putfield 205, 3) := by decide +kernel
theorem dX5_token_31 : decode cX5_token 31 = .ok (.goto (-23), 3) := by decide +kernel
theorem dX5_token_34 : decode cX5_token 34 = .ok (.aload_n 0, 1) := by decide +kernel
theorem dX5_token_35 : decode cX5_token 35 = .ok (.aload_n 0, 1) := by decide +kernel
theorem dX5_token_36 : decode cX5_token 36 = .ok (.getfield 205, 3) := by decide +kernel
theorem dX5_token_39 : decode cX5_token 39 = .ok (.invokevirtual 208, 3) := by decide +kernel
theorem dX5_token_42 : decode cX5_token 42 = .ok (.invokestatic 211, 3) := by decide +kernel
theorem dX5_token_45 : decode cX5_token 45 = .ok (.istore_n 1, 1) := by decide +kernel
theorem dX5_token_46 : decode cX5_token 46 = .ok (.aload_n 0, 1) := by decide +kernel
theorem dX5_token_47 : decode cX5_token 47 = .ok (.aload_n 0, 1) := by decide +kernel
theorem dX5_token_48 : decode cX5_token 48 = .ok (.getfield 205, 3) := by decide +kernel
theorem dX5_token_51 : decode cX5_token 51 = .ok (.invokevirtual 208, 3) := by decide +kernel
theorem dX5_token_54 : decode cX5_token 54 = .ok (.invokestatic 214, 3) := by decide +kernel
theorem dX5_token_57 : decode cX5_token 57 = .ok (.istore_n 2, 1) := by decide +kernel
theorem dX5_token_58 : decode cX5_token 58 = .ok (.aload_n 0, 1) := by decide +kernel
theorem dX5_token_59 : decode cX5_token 59 = .ok (.aload_n 0, 1) := by decide +kernel
theorem dX5_token_60 : decode cX5_token 60 = .ok (.getfield 205, 3) := by decide +kernel
theorem dX5_token_63 : decode cX5_token 63 = .ok (.aload_n 0, 1) := by decide +kernel
theorem dX5_token_64 : decode cX5_token 64 = .ok (.getfield 190, 3) := by decide +kernel
theorem dX5_token_67 : decode cX5_token 67 = .ok (.if_icmp .ge 12, 3) := by decide +kernel
theorem dX5_token_70 : decode cX5_token 70 = .ok (.aload_n 0, 1) := by decide +kernel
theorem dX5_token_71 : decode cX5_token 71 = .ok (.getfield 205, 3) := by decide +kernel
theorem dX5_token_74 : decode cX5_token 74 = .ok (.iconst 1, 1) := by decide +kernel
theorem dX5_token_75 : decode cX5_token 75 = .ok (.iadd, 1) := by decide +kernel
theorem dX5_token_76 : decode cX5_token 76 = .ok (.goto 7, 3) := by decide +kernel
theorem dX5_token_79 : decode cX5_token 79 = .ok (.aload_n 0, 1) := by decide +kernel
theorem dX5_token_80 : decode cX5_token 80 = .ok (.getfield 205, 3) := by decide +kernel
theorem dX5_token_83 : decode cX5_token 83 = .ok (.putfield 202, 3) := by decide +kernel
theorem dX5_token_86 : decode cX5_token 86 = .ok (.iload_n 1, 1) := by decide +kernel
theorem dX5_token_87 : decode cX5_token 87 = .ok (.ifCond .eq 17, 3) := by decide +kernel
theorem dX5_token_90 : decode cX5_token 90 = .ok (.aload_n 0, 1) := by decide +kernel
theorem dX5_token_91 : decode cX5_token 91 = .ok (.aload_n 0, 1) := by decide +kernel
theorem dX5_token_92 : decode cX5_token 92 = .ok (.getfield 202, 3) := by decide +kernel
theorem dX5_token_95 : decode cX5_token 95 = .ok (.invokevirtual 208, 3) := by decide +kernel
theorem dX5_token_98 : decode cX5_token 98 = .ok (.invokestatic 211, 3) := by decide +kernel
theorem dX5_token_101 : decode cX5_token 101 = .ok (.ifCond .ne 21, 3) := by decide +kernel
theorem dX5_token_104 : decode cX5_token 104 = .ok (.iload_n 2, 1) := by decide +kernel
theorem dX5_token_105 : decode cX5_token 105 = .ok (.ifCond .eq 30, 3) := by decide +kernel
theorem dX5_token_108 : decode cX5_token 108 = .ok (.aload_n 0, 1) := by decide +kernel
theorem dX5_token_109 : decode cX5_token 109 = .ok (.aload_n 0, 1) := by decide +kernel
theorem dX5_token_110 : decode cX5_token 110 = .ok (.getfield 202, 3) := by decide +kernel
theorem dX5_token_113 : decode cX5_token 113 = .ok (.invokevirtual 208, 3) := by decide +kernel
theorem dX5_token_116 : decode cX5_token 116 = .ok (.invokestatic 214, 3) := by decide +kernel
theorem dX5_token_119 : decode cX5_token 119 = .ok (.ifCond .eq 16, 3) := by decide +kernel
theorem dX5_token_122 : decode cX5_token 122 = .ok (.aload_n 0, 1) := by decide +kernel
theorem dX5_token_123 : decode cX5_token 123 = .ok (.dup, 1) := by decide +kernel
theorem dX5_token_124 : decode cX5_token 124 = .ok (.getfield 202, 3) := by decide +kernel
theorem dX5_token_127 : decode cX5_token 127 = .ok (.iconst 1, 1) := by decide +kernel
theorem dX5_token_128 : decode cX5_token 128 = .ok (.iadd, 1) := by decide +kernel
theorem dX5_token_129 : decode cX5_token 129 = .ok (.putfield 202, 3) := by decide +kernel
theorem dX5_token_132 : decode cX5_token 132 = .ok (.goto (-46), 3) := by decide +kernel
theorem dX5_token_135 : decode cX5_token 135 = .ok (.return_, 1) := by decide +kernel
theorem dX5_must_0 : decode cX5_must 0 = .ok (.aload_n 0, 1) := by decide +kernel
theorem dX5_must_1 : decode cX5_must 1 = .ok (.aload_n 0, 1) := by decide +kernel
theorem dX5_must_2 : decode cX5_must 2 = .ok (.getfield 217, 3) := by decide +kernel
theorem dX5_must_5 : decode cX5_must 5 = .ok (.ifCond .ne 7, 3) := by decide +kernel
theorem dX5_must_8 : decode cX5_must 8 = .ok (.iload_n 1, 1) := by decide +kernel
theorem dX5_must_9 : decode cX5_must 9 = .ok (.ifCond .ne 7, 3) := by decide +kernel
theorem dX5_must_12 : decode cX5_must 12 = .ok (.iconst 1, 1) := by decide +kernel
theorem dX5_must_13 : decode cX5_must 13 = .ok (.goto 4, 3) := by decide +kernel
theorem dX5_must_16 : decode cX5_must 16 = .ok (.iconst 0, 1) := by decide +kernel
theorem dX5_must_17 : decode cX5_must 17 = .ok (.putfield 217, 3) := by decide +kernel
theorem dX5_must_20 : decode cX5_must 20 = .ok (.aload_n 0, 1) := by decide +kernel
theorem dX5_must_21 : decode cX5_must 21 = .ok (.getfield 217, 3) := by decide +kernel
theorem dX5_must_24 : decode cX5_must 24 = .ok (.ifCond .ne 7, 3) := by decide +kernel
theorem dX5_must_27 : decode cX5_must 27 = .ok (.aload_n 0, 1) := by decide +kernel
theorem dX5_must_28 : decode cX5_must 28 = .ok (.invokevirtual 221, 3) := by decide +kernel
theorem dX5_must_31 : decode cX5_must 31 = .ok (.return_, 1) := by decide +kernel
theorem dX5_word_0 : decode cX5_word 0 = .ok (.lconst 0, 1) := by decide +kernel
theorem dX5_word_1 : decode cX5_word 1 = .ok (.lstore_n 1, 1) := by decide +kernel
theorem dX5_word_2 : decode cX5_word 2 = .ok (.aload_n 0, 1) := by decide +kernel
theorem dX5_word_3 : decode cX5_word 3 = .ok (.getfield 205, 3) := by decide +kernel
theorem dX5_word_6 : decode cX5_word 6 = .ok (.istore_n 3, 1) := by decide +kernel
theorem dX5_word_7 : decode cX5_word 7 = .ok (.iload_n 3, 1) := by decide +kernel
theorem dX5_word_8 : decode cX5_word 8 = .ok (.aload_n 0, 1) := by decide +kernel
theorem dX5_word_9 : decode cX5_word 9 = .ok (.getfield 202, 3) := by decide +kernel
theorem dX5_word_12 : decode cX5_word 12 = .ok (.if_icmp .ge 38, 3) := by decide +kernel
theorem dX5_word_15 : decode cX5_word 15 = .ok (.lload_n 1, 1) := by decide +kernel
theorem dX5_word_16 : decode cX5_word 16 = .ok (.ldc2_w 224, 3) := by decide +kernel
theorem dX5_word_19 : decode cX5_word 19 = .ok (.lcmp, 1) := by decide +kernel
theorem dX5_word_20 : decode cX5_word 20 = .ok (.ifCond .le 7, 3) := by decide +kernel
theorem dX5_word_23 : decode cX5_word 23 = .ok (.lload_n 1, 1) := by decide +kernel
theorem dX5_word_24 : decode cX5_word 24 = .ok (.goto 19, 3) := by decide +kernel
theorem dX5_word_27 : decode cX5_word 27 = .ok (.ldc2_w 226, 3) := by decide +kernel
theorem dX5_word_30 : decode cX5_word 30 = .ok (.lload_n 1, 1) := by decide +kernel
theorem dX5_word_31 : decode cX5_word 31 = .ok (.lmul, 1) := by decide +kernel
theorem dX5_word_32 : decode cX5_word 32 = .ok (.aload_n 0, 1) := by decide +kernel
theorem dX5_word_33 : decode cX5_word 33 = .ok (.getfield 25, 3) := by decide +kernel
theorem dX5_word_36 : decode cX5_word 36 = .ok (.iload_n 3, 1) := by decide +kernel
theorem dX5_word_37 : decode cX5_word 37 = .ok (.iaload, 1) := by decide +kernel
theorem dX5_word_38 : decode cX5_word 38 = .ok (.bipush 96, 2) := by decide +kernel
theorem dX5_word_40 : decode cX5_word 40 = .ok (.isub, 1) := by decide +kernel
theorem dX5_word_41 : decode cX5_word 41 = .ok (.i2l, 1) := by decide +kernel
theorem dX5_word_42 : decode cX5_word 42 = .ok (.ladd, 1) := by decide +kernel
theorem dX5_word_43 : decode cX5_word 43 = .ok (.lstore_n 1, 1) := by decide +kernel
theorem dX5_word_44 : decode cX5_word 44 = .ok (.iinc 3 1, 3) := by decide +kernel
theorem dX5_word_47 : decode cX5_word 47 = .ok (.goto (-40), 3) := by decide +kernel
theorem dX5_word_50 : decode cX5_word 50 = .ok (.aload_n 0, 1) := by decide +kernel
theorem dX5_word_51 : decode cX5_word 51 = .ok (.getfield 217, 3) := by decide +kernel
theorem dX5_word_54 : decode cX5_word 54 = .ok (.ifCond .ne 17, 3) := by decide +kernel
theorem dX5_word_57 : decode cX5_word 57 = .ok (.aload_n 0, 1) := by decide +kernel
theorem dX5_word_58 : decode cX5_word 58 = .ok (.aload_n 0, 1) := by decide +kernel
theorem dX5_word_59 : decode cX5_word 59 = .ok (.getfield 205, 3) := by decide +kernel
theorem dX5_word_62 : decode cX5_word 62 = .ok (.invokevirtual 208, 3) := by decide +kernel
theorem dX5_word_65 : decode cX5_word 65 = .ok (.invokestatic 211, 3) := by decide +kernel
theorem dX5_word_68 : decode cX5_word 68 = .ok (.ifCond .ne 7, 3) := by decide +kernel
theorem dX5_word_71 : decode cX5_word 71 = .ok (.lconst 0, 1) := by decide +kernel
theorem dX5_word_72 : decode cX5_word 72 = .ok (.goto 4, 3) := by decide +kernel
theorem dX5_word_75 : decode cX5_word 75 = .ok (.lload_n 1, 1) := by decide +kernel
theorem dX5_word_76 : decode cX5_word 76 = .ok (.lreturn, 1) := by decide +kernel
theorem dX5_number_0 : decode cX5_number 0 = .ok (.aload_n 0, 1) := by decide +kernel
theorem dX5_number_1 : decode cX5_number 1 = .ok (.getfield 217, 3) := by decide +kernel
theorem dX5_number_4 : decode cX5_number 4 = .ok (.ifCond .eq 4, 3) := by decide +kernel
theorem dX5_number_7 : decode cX5_number 7 = .ok (.return_, 1) := by decide +kernel
theorem dX5_number_8 : decode cX5_number 8 = .ok (.aload_n 0, 1) := by decide +kernel
theorem dX5_number_9 : decode cX5_number 9 = .ok (.aload_n 0, 1) := by decide +kernel
theorem dX5_number_10 : decode cX5_number 10 = .ok (.getfield 205, 3) := by decide +kernel
theorem dX5_number_13 : decode cX5_number 13 = .ok (.invokevirtual 208, 3) := by decide +kernel
theorem dX5_number_16 : decode cX5_number 16 = .ok (.invokestatic 214, 3) := by decide +kernel
theorem dX5_number_19 : decode cX5_number 19 = .ok (.istore_n 3, 1) := by decide +kernel
theorem dX5_number_20 : decode cX5_number 20 = .ok (.iconst 0, 1) := by decide +kernel
theorem dX5_number_21 : decode cX5_number 21 = .ok (.istore 4, 2) := by decide +kernel
theorem dX5_number_23 : decode cX5_number 23 = .ok (.aload_n 0, 1) := by decide +kernel
theorem dX5_number_24 : decode cX5_number 24 = .ok (.getfield 205, 3) := by decide +kernel
theorem dX5_number_27 : decode cX5_number 27 = .ok (.istore 5, 2) := by decide +kernel
theorem dX5_number_29 : decode cX5_number 29 = .ok (.iload 5, 2) := by decide +kernel
theorem dX5_number_31 : decode cX5_number 31 = .ok (.aload_n 0, 1) := by decide +kernel
theorem dX5_number_32 : decode cX5_number 32 = .ok (.getfield 202, 3) := by decide +kernel
theorem dX5_number_35 : decode cX5_number 35 = .ok (.if_icmp .ge 44, 3) := by decide +kernel
theorem dX5_number_38 : decode cX5_number 38 = .ok (.iload_n 3, 1) := by decide +kernel
theorem dX5_number_39 : decode cX5_number 39 = .ok (.ifCond .eq 40, 3) := by decide +kernel
theorem dX5_number_42 : decode cX5_number 42 = .ok (.iload 4, 2) := by decide +kernel
theorem dX5_number_44 : decode cX5_number 44 = .ok (.sipush 9999, 3) := by decide +kernel
theorem dX5_number_47 : decode cX5_number 47 = .ok (.if_icmp .le 8, 3) := by decide +kernel
theorem dX5_number_50 : decode cX5_number 50 = .ok (.iload 4, 2) := by decide +kernel
theorem dX5_number_52 : decode cX5_number 52 = .ok (.goto 19, 3) := by decide +kernel
theorem dX5_number_55 : decode cX5_number 55 = .ok (.bipush 10, 2) := by decide +kernel
theorem dX5_number_57 : decode cX5_number 57 = .ok (.iload 4, 2) := by decide +kernel
theorem dX5_number_59 : decode cX5_number 59 = .ok (.imul, 1) := by decide +kernel
theorem dX5_number_60 : decode cX5_number 60 = .ok (.aload_n 0, 1) := by decide +kernel
theorem dX5_number_61 : decode cX5_number 61 = .ok (.getfield 25, 3) := by decide +kernel
theorem dX5_number_64 : decode cX5_number 64 = .ok (.iload 5, 2) := by decide +kernel
theorem dX5_number_66 : decode cX5_number 66 = .ok (.iaload, 1) := by decide +kernel
theorem dX5_number_67 : decode cX5_number 67 = .ok (.iadd, 1) := by decide +kernel
theorem dX5_number_68 : decode cX5_number 68 = .ok (.bipush 48, 2) := by decide +kernel
theorem dX5_number_70 : decode cX5_number 70 = .ok (.isub, 1) := by decide +kernel
theorem dX5_number_71 : decode cX5_number 71 = .ok (.istore 4, 2) := by decide +kernel
theorem dX5_number_73 : decode cX5_number 73 = .ok (.iinc 5 1, 3) := by decide +kernel
theorem dX5_number_76 : decode cX5_number 76 = .ok (.goto (-47), 3) := by decide +kernel
theorem dX5_number_79 : decode cX5_number 79 = .ok (.aload_n 0, 1) := by decide +kernel
theorem dX5_number_80 : decode cX5_number 80 = .ok (.iload 4, 2) := by decide +kernel
theorem dX5_number_82 : decode cX5_number 82 = .ok (.putfield 228, 3) := by decide +kernel
theorem dX5_number_85 : decode cX5_number 85 = .ok (.aload_n 0, 1) := by decide +kernel
theorem dX5_number_86 : decode cX5_number 86 = .ok (.iload_n 3, 1) := by decide +kernel
theorem dX5_number_87 : decode cX5_number 87 = .ok (.ifCond .eq 20, 3) := by decide +kernel
theorem dX5_number_90 : decode cX5_number 90 = .ok (.iload 4, 2) := by decide +kernel
theorem dX5_number_92 : decode cX5_number 92 = .ok (.i2l, 1) := by decide +kernel
theorem dX5_number_93 : decode cX5_number 93 = .ok (.iload_n 1, 1) := by decide +kernel
theorem dX5_number_94 : decode cX5_number 94 = .ok (.i2l, 1) := by decide +kernel
theorem dX5_number_95 : decode cX5_number 95 = .ok (.iload_n 2, 1) := by decide +kernel
theorem dX5_number_96 : decode cX5_number 96 = .ok (.i2l, 1) := by decide +kernel
theorem dX5_number_97 : decode cX5_number 97 = .ok (.invokestatic 46, 3) := by decide +kernel
theorem dX5_number_100 : decode cX5_number 100 = .ok (.ifCond .eq 7, 3) := by decide +kernel
theorem dX5_number_103 : decode cX5_number 103 = .ok (.iconst 1, 1) := by decide +kernel
theorem dX5_number_104 : decode cX5_number 104 = .ok (.goto 4, 3) := by decide +kernel
theorem dX5_number_107 : decode cX5_number 107 = .ok (.iconst 0, 1) := by decide +kernel
theorem dX5_number_108 : decode cX5_number 108 = .ok (.invokevirtual 231, 3) := by decide +kernel
theorem dX5_number_111 : decode cX5_number 111 = .ok (.return_, 1) := by decide +kernel
theorem dX5_kindHere_0 : decode cX5_kindHere 0 = .ok (.aload_n 0, 1) := by decide +kernel
theorem dX5_kindHere_1 : decode cX5_kindHere 1 = .ok (.invokevirtual 235, 3) := by decide +kernel
theorem dX5_kindHere_4 : decode cX5_kindHere 4 = .ok (.lstore_n 1, 1) := by decide +kernel
theorem dX5_kindHere_5 : decode cX5_kindHere 5 = .ok (.lload_n 1, 1) := by decide +kernel
theorem dX5_kindHere_6 : decode cX5_kindHere 6 = .ok (.ldc2_w 239, 3) := by decide +kernel
theorem dX5_kindHere_9 : decode cX5_kindHere 9 = .ok (.lcmp, 1) := by decide +kernel
theorem dX5_kindHere_10 : decode cX5_kindHere 10 = .ok (.ifCond .ne 7, 3) := by decide +kernel
theorem dX5_kindHere_13 : decode cX5_kindHere 13 = .ok (.iconst 0, 1) := by decide +kernel
theorem dX5_kindHere_14 : decode cX5_kindHere 14 = .ok (.goto 64, 3) := by decide +kernel
theorem dX5_kindHere_17 : decode cX5_kindHere 17 = .ok (.lload_n 1, 1) := by decide +kernel
theorem dX5_kindHere_18 : decode cX5_kindHere 18 = .ok (.ldc2_w 241, 3) := by decide +kernel
theorem dX5_kindHere_21 : decode cX5_kindHere 21 = .ok (.lcmp, 1) := by decide +kernel
theorem dX5_kindHere_22 : decode cX5_kindHere 22 = .ok (.ifCond .ne 7, 3) := by decide +kernel
theorem dX5_kindHere_25 : decode cX5_kindHere 25 = .ok (.iconst 1, 1) := by decide +kernel
theorem dX5_kindHere_26 : decode cX5_kindHere 26 = .ok (.goto 52, 3) := by decide +kernel
theorem dX5_kindHere_29 : decode cX5_kindHere 29 = .ok (.lload_n 1, 1) := by decide +kernel
theorem dX5_kindHere_30 : decode cX5_kindHere 30 = .ok (.ldc2_w 243, 3) := by decide +kernel
theorem dX5_kindHere_33 : decode cX5_kindHere 33 = .ok (.lcmp, 1) := by decide +kernel
theorem dX5_kindHere_34 : decode cX5_kindHere 34 = .ok (.ifCond .ne 7, 3) := by decide +kernel
theorem dX5_kindHere_37 : decode cX5_kindHere 37 = .ok (.iconst 2, 1) := by decide +kernel
theorem dX5_kindHere_38 : decode cX5_kindHere 38 = .ok (.goto 40, 3) := by decide +kernel
theorem dX5_kindHere_41 : decode cX5_kindHere 41 = .ok (.lload_n 1, 1) := by decide +kernel
theorem dX5_kindHere_42 : decode cX5_kindHere 42 = .ok (.ldc2_w 245, 3) := by decide +kernel
theorem dX5_kindHere_45 : decode cX5_kindHere 45 = .ok (.lcmp, 1) := by decide +kernel
theorem dX5_kindHere_46 : decode cX5_kindHere 46 = .ok (.ifCond .ne 7, 3) := by decide +kernel
theorem dX5_kindHere_49 : decode cX5_kindHere 49 = .ok (.iconst 3, 1) := by decide +kernel
theorem dX5_kindHere_50 : decode cX5_kindHere 50 = .ok (.goto 28, 3) := by decide +kernel
theorem dX5_kindHere_53 : decode cX5_kindHere 53 = .ok (.lload_n 1, 1) := by decide +kernel
theorem dX5_kindHere_54 : decode cX5_kindHere 54 = .ok (.ldc2_w 247, 3) := by decide +kernel
theorem dX5_kindHere_57 : decode cX5_kindHere 57 = .ok (.lcmp, 1) := by decide +kernel
theorem dX5_kindHere_58 : decode cX5_kindHere 58 = .ok (.ifCond .ne 7, 3) := by decide +kernel
theorem dX5_kindHere_61 : decode cX5_kindHere 61 = .ok (.iconst 4, 1) := by decide +kernel
theorem dX5_kindHere_62 : decode cX5_kindHere 62 = .ok (.goto 16, 3) := by decide +kernel
theorem dX5_kindHere_65 : decode cX5_kindHere 65 = .ok (.lload_n 1, 1) := by decide +kernel
theorem dX5_kindHere_66 : decode cX5_kindHere 66 = .ok (.ldc2_w 249, 3) := by decide +kernel
theorem dX5_kindHere_69 : decode cX5_kindHere 69 = .ok (.lcmp, 1) := by decide +kernel
theorem dX5_kindHere_70 : decode cX5_kindHere 70 = .ok (.ifCond .ne 7, 3) := by decide +kernel
theorem dX5_kindHere_73 : decode cX5_kindHere 73 = .ok (.iconst 5, 1) := by decide +kernel
theorem dX5_kindHere_74 : decode cX5_kindHere 74 = .ok (.goto 4, 3) := by decide +kernel
theorem dX5_kindHere_77 : decode cX5_kindHere 77 = .ok (.iconst (-1), 1) := by decide +kernel
theorem dX5_kindHere_78 : decode cX5_kindHere 78 = .ok (.ireturn, 1) := by decide +kernel
theorem dX5_eweItem_0 : decode cX5_eweItem 0 = .ok (.aload_n 0, 1) := by decide +kernel
theorem dX5_eweItem_1 : decode cX5_eweItem 1 = .ok (.aload_n 0, 1) := by decide +kernel
theorem dX5_eweItem_2 : decode cX5_eweItem 2 = .ok (.getfield 7, 3) := by decide +kernel
theorem dX5_eweItem_5 : decode cX5_eweItem 5 = .ok (.iconst 1, 1) := by decide +kernel
theorem dX5_eweItem_6 : decode cX5_eweItem 6 = .ok (.iaload, 1) := by decide +kernel
theorem dX5_eweItem_7 : decode cX5_eweItem 7 = .ok (.bipush 8, 2) := by decide +kernel
theorem dX5_eweItem_9 : decode cX5_eweItem 9 = .ok (.if_icmp .ge 7, 3) := by decide +kernel
theorem dX5_eweItem_12 : decode cX5_eweItem 12 = .ok (.iconst 1, 1) := by decide +kernel
theorem dX5_eweItem_13 : decode cX5_eweItem 13 = .ok (.goto 4, 3) := by decide +kernel
theorem dX5_eweItem_16 : decode cX5_eweItem 16 = .ok (.iconst 0, 1) := by decide +kernel
theorem dX5_eweItem_17 : decode cX5_eweItem 17 = .ok (.invokevirtual 231, 3) := by decide +kernel
theorem dX5_eweItem_20 : decode cX5_eweItem 20 = .ok (.aload_n 0, 1) := by decide +kernel
theorem dX5_eweItem_21 : decode cX5_eweItem 21 = .ok (.getfield 217, 3) := by decide +kernel
theorem dX5_eweItem_24 : decode cX5_eweItem 24 = .ok (.ifCond .eq 4, 3) := by decide +kernel
theorem dX5_eweItem_27 : decode cX5_eweItem 27 = .ok (.return_, 1) := by decide +kernel
theorem dX5_eweItem_28 : decode cX5_eweItem 28 = .ok (.aload_n 0, 1) := by decide +kernel
theorem dX5_eweItem_29 : decode cX5_eweItem 29 = .ok (.iload_n 1, 1) := by decide +kernel
theorem dX5_eweItem_30 : decode cX5_eweItem 30 = .ok (.invokevirtual 97, 3) := by decide +kernel
theorem dX5_eweItem_33 : decode cX5_eweItem 33 = .ok (.istore_n 2, 1) := by decide +kernel
theorem dX5_eweItem_34 : decode cX5_eweItem 34 = .ok (.aload_n 0, 1) := by decide +kernel
theorem dX5_eweItem_35 : decode cX5_eweItem 35 = .ok (.invokevirtual 235, 3) := by decide +kernel
theorem dX5_eweItem_38 : decode cX5_eweItem 38 = .ok (.ldc2_w 251, 3) := by decide +kernel
theorem dX5_eweItem_41 : decode cX5_eweItem 41 = .ok (.lcmp, 1) := by decide +kernel
theorem dX5_eweItem_42 : decode cX5_eweItem 42 = .ok (.ifCond .ne 29, 3) := by decide +kernel
theorem dX5_eweItem_45 : decode cX5_eweItem 45 = .ok (.aload_n 0, 1) := by decide +kernel
theorem dX5_eweItem_46 : decode cX5_eweItem 46 = .ok (.iconst 1, 1) := by decide +kernel
theorem dX5_eweItem_47 : decode cX5_eweItem 47 = .ok (.invokevirtual 231, 3) := by decide +kernel
theorem dX5_eweItem_50 : decode cX5_eweItem 50 = .ok (.aload_n 0, 1) := by decide +kernel
theorem dX5_eweItem_51 : decode cX5_eweItem 51 = .ok (.iconst 0, 1) := by decide +kernel
theorem dX5_eweItem_52 : decode cX5_eweItem 52 = .ok (.bipush 99, 2) := by decide +kernel
theorem dX5_eweItem_54 : decode cX5_eweItem 54 = .ok (.invokevirtual 253, 3) := by decide +kernel
theorem dX5_eweItem_57 : decode cX5_eweItem 57 = .ok (.aload_n 0, 1) := by decide +kernel
theorem dX5_eweItem_58 : decode cX5_eweItem 58 = .ok (.getfield 7, 3) := by decide +kernel
theorem dX5_eweItem_61 : decode cX5_eweItem 61 = .ok (.iload_n 2, 1) := by decide +kernel
theorem dX5_eweItem_62 : decode cX5_eweItem 62 = .ok (.iconst 1, 1) := by decide +kernel
theorem dX5_eweItem_63 : decode cX5_eweItem 63 = .ok (.invokestatic 42, 3) := by decide +kernel
theorem dX5_eweItem_66 : decode cX5_eweItem 66 = .ok (.aload_n 0, 1) := by decide +kernel
theorem dX5_eweItem_67 : decode cX5_eweItem 67 = .ok (.getfield 228, 3) := by decide +kernel
theorem dX5_eweItem_70 : decode cX5_eweItem 70 = .ok (.iastore, 1) := by decide +kernel
theorem dX5_eweItem_71 : decode cX5_eweItem 71 = .ok (.return_, 1) := by decide +kernel
theorem dX5_weatherItem_0 : decode cX5_weatherItem 0 = .ok (.aload_n 0, 1) := by decide +kernel
theorem dX5_weatherItem_1 : decode cX5_weatherItem 1 = .ok (.iconst 1, 1) := by decide +kernel
theorem dX5_weatherItem_2 : decode cX5_weatherItem 2 = .ok (.invokevirtual 231, 3) := by decide +kernel
theorem dX5_weatherItem_5 : decode cX5_weatherItem 5 = .ok (.aload_n 0, 1) := by decide +kernel
theorem dX5_weatherItem_6 : decode cX5_weatherItem 6 = .ok (.iconst 0, 1) := by decide +kernel
theorem dX5_weatherItem_7 : decode cX5_weatherItem 7 = .ok (.bipush 11, 2) := by decide +kernel
theorem dX5_weatherItem_9 : decode cX5_weatherItem 9 = .ok (.invokevirtual 253, 3) := by decide +kernel
theorem dX5_weatherItem_12 : decode cX5_weatherItem 12 = .ok (.aload_n 0, 1) := by decide +kernel
theorem dX5_weatherItem_13 : decode cX5_weatherItem 13 = .ok (.getfield 228, 3) := by decide +kernel
theorem dX5_weatherItem_16 : decode cX5_weatherItem 16 = .ok (.istore_n 2, 1) := by decide +kernel
theorem dX5_weatherItem_17 : decode cX5_weatherItem 17 = .ok (.aload_n 0, 1) := by decide +kernel
theorem dX5_weatherItem_18 : decode cX5_weatherItem 18 = .ok (.iconst 0, 1) := by decide +kernel
theorem dX5_weatherItem_19 : decode cX5_weatherItem 19 = .ok (.bipush 20, 2) := by decide +kernel
theorem dX5_weatherItem_21 : decode cX5_weatherItem 21 = .ok (.invokevirtual 253, 3) := by decide +kernel
theorem dX5_weatherItem_24 : decode cX5_weatherItem 24 = .ok (.aload_n 0, 1) := by decide +kernel
theorem dX5_weatherItem_25 : decode cX5_weatherItem 25 = .ok (.getfield 217, 3) := by decide +kernel
theorem dX5_weatherItem_28 : decode cX5_weatherItem 28 = .ok (.ifCond .ne 17, 3) := by decide +kernel
theorem dX5_weatherItem_31 : decode cX5_weatherItem 31 = .ok (.aload_n 0, 1) := by decide +kernel
theorem dX5_weatherItem_32 : decode cX5_weatherItem 32 = .ok (.getfield 7, 3) := by decide +kernel
theorem dX5_weatherItem_35 : decode cX5_weatherItem 35 = .ok (.iconst 2, 1) := by decide +kernel
theorem dX5_weatherItem_36 : decode cX5_weatherItem 36 = .ok (.iload_n 2, 1) := by decide +kernel
theorem dX5_weatherItem_37 : decode cX5_weatherItem 37 = .ok (.iadd, 1) := by decide +kernel
theorem dX5_weatherItem_38 : decode cX5_weatherItem 38 = .ok (.iload_n 1, 1) := by decide +kernel
theorem dX5_weatherItem_39 : decode cX5_weatherItem 39 = .ok (.aload_n 0, 1) := by decide +kernel
theorem dX5_weatherItem_40 : decode cX5_weatherItem 40 = .ok (.getfield 228, 3) := by decide +kernel
theorem dX5_weatherItem_43 : decode cX5_weatherItem 43 = .ok (.imul, 1) := by decide +kernel
theorem dX5_weatherItem_44 : decode cX5_weatherItem 44 = .ok (.iastore, 1) := by decide +kernel
theorem dX5_weatherItem_45 : decode cX5_weatherItem 45 = .ok (.return_, 1) := by decide +kernel
theorem dX5_cutItem_0 : decode cX5_cutItem 0 = .ok (.aload_n 0, 1) := by decide +kernel
theorem dX5_cutItem_1 : decode cX5_cutItem 1 = .ok (.iconst 1, 1) := by decide +kernel
theorem dX5_cutItem_2 : decode cX5_cutItem 2 = .ok (.invokevirtual 231, 3) := by decide +kernel
theorem dX5_cutItem_5 : decode cX5_cutItem 5 = .ok (.aload_n 0, 1) := by decide +kernel
theorem dX5_cutItem_6 : decode cX5_cutItem 6 = .ok (.iconst 0, 1) := by decide +kernel
theorem dX5_cutItem_7 : decode cX5_cutItem 7 = .ok (.iconst 3, 1) := by decide +kernel
theorem dX5_cutItem_8 : decode cX5_cutItem 8 = .ok (.invokevirtual 253, 3) := by decide +kernel
theorem dX5_cutItem_11 : decode cX5_cutItem 11 = .ok (.aload_n 0, 1) := by decide +kernel
theorem dX5_cutItem_12 : decode cX5_cutItem 12 = .ok (.getfield 228, 3) := by decide +kernel
theorem dX5_cutItem_15 : decode cX5_cutItem 15 = .ok (.istore_n 1, 1) := by decide +kernel
theorem dX5_cutItem_16 : decode cX5_cutItem 16 = .ok (.aload_n 0, 1) := by decide +kernel
theorem dX5_cutItem_17 : decode cX5_cutItem 17 = .ok (.iconst 0, 1) := by decide +kernel
theorem dX5_cutItem_18 : decode cX5_cutItem 18 = .ok (.bipush 11, 2) := by decide +kernel
theorem dX5_cutItem_20 : decode cX5_cutItem 20 = .ok (.invokevirtual 253, 3) := by decide +kernel
theorem dX5_cutItem_23 : decode cX5_cutItem 23 = .ok (.aload_n 0, 1) := by decide +kernel
theorem dX5_cutItem_24 : decode cX5_cutItem 24 = .ok (.getfield 228, 3) := by decide +kernel
theorem dX5_cutItem_27 : decode cX5_cutItem 27 = .ok (.istore_n 2, 1) := by decide +kernel
theorem dX5_cutItem_28 : decode cX5_cutItem 28 = .ok (.aload_n 0, 1) := by decide +kernel
theorem dX5_cutItem_29 : decode cX5_cutItem 29 = .ok (.getfield 217, 3) := by decide +kernel
theorem dX5_cutItem_32 : decode cX5_cutItem 32 = .ok (.ifCond .eq 4, 3) := by decide +kernel
theorem dX5_cutItem_35 : decode cX5_cutItem 35 = .ok (.return_, 1) := by decide +kernel
theorem dX5_cutItem_36 : decode cX5_cutItem 36 = .ok (.sipush 999, 3) := by decide +kernel
theorem dX5_cutItem_39 : decode cX5_cutItem 39 = .ok (.aload_n 0, 1) := by decide +kernel
theorem dX5_cutItem_40 : decode cX5_cutItem 40 = .ok (.getfield 7, 3) := by decide +kernel
theorem dX5_cutItem_43 : decode cX5_cutItem 43 = .ok (.iload_n 1, 1) := by decide +kernel
theorem dX5_cutItem_44 : decode cX5_cutItem 44 = .ok (.iload_n 2, 1) := by decide +kernel
theorem dX5_cutItem_45 : decode cX5_cutItem 45 = .ok (.invokestatic 122, 3) := by decide +kernel
theorem dX5_cutItem_48 : decode cX5_cutItem 48 = .ok (.iaload, 1) := by decide +kernel
theorem dX5_cutItem_49 : decode cX5_cutItem 49 = .ok (.isub, 1) := by decide +kernel
theorem dX5_cutItem_50 : decode cX5_cutItem 50 = .ok (.istore_n 3, 1) := by decide +kernel
theorem dX5_cutItem_51 : decode cX5_cutItem 51 = .ok (.aload_n 0, 1) := by decide +kernel
theorem dX5_cutItem_52 : decode cX5_cutItem 52 = .ok (.iconst 0, 1) := by decide +kernel
theorem dX5_cutItem_53 : decode cX5_cutItem 53 = .ok (.aload_n 0, 1) := by decide +kernel
theorem dX5_cutItem_54 : decode cX5_cutItem 54 = .ok (.getfield 7, 3) := by decide +kernel
theorem dX5_cutItem_57 : decode cX5_cutItem 57 = .ok (.bipush 14, 2) := by decide +kernel
theorem dX5_cutItem_59 : decode cX5_cutItem 59 = .ok (.iload_n 2, 1) := by decide +kernel
theorem dX5_cutItem_60 : decode cX5_cutItem 60 = .ok (.iadd, 1) := by decide +kernel
theorem dX5_cutItem_61 : decode cX5_cutItem 61 = .ok (.iaload, 1) := by decide +kernel
theorem dX5_cutItem_62 : decode cX5_cutItem 62 = .ok (.iload_n 3, 1) := by decide +kernel
theorem dX5_cutItem_63 : decode cX5_cutItem 63 = .ok (.invokestatic 144, 3) := by decide +kernel
theorem dX5_cutItem_66 : decode cX5_cutItem 66 = .ok (.invokevirtual 253, 3) := by decide +kernel
theorem dX5_cutItem_69 : decode cX5_cutItem 69 = .ok (.aload_n 0, 1) := by decide +kernel
theorem dX5_cutItem_70 : decode cX5_cutItem 70 = .ok (.getfield 217, 3) := by decide +kernel
theorem dX5_cutItem_73 : decode cX5_cutItem 73 = .ok (.ifCond .ne 14, 3) := by decide +kernel
theorem dX5_cutItem_76 : decode cX5_cutItem 76 = .ok (.aload_n 0, 1) := by decide +kernel
theorem dX5_cutItem_77 : decode cX5_cutItem 77 = .ok (.iload_n 1, 1) := by decide +kernel
theorem dX5_cutItem_78 : decode cX5_cutItem 78 = .ok (.iload_n 2, 1) := by decide +kernel
theorem dX5_cutItem_79 : decode cX5_cutItem 79 = .ok (.aload_n 0, 1) := by decide +kernel
theorem dX5_cutItem_80 : decode cX5_cutItem 80 = .ok (.getfield 228, 3) := by decide +kernel
theorem dX5_cutItem_83 : decode cX5_cutItem 83 = .ok (.invokevirtual 131, 3) := by decide +kernel
theorem dX5_cutItem_86 : decode cX5_cutItem 86 = .ok (.pop, 1) := by decide +kernel
theorem dX5_cutItem_87 : decode cX5_cutItem 87 = .ok (.return_, 1) := by decide +kernel
theorem dX5_storeItem_0 : decode cX5_storeItem 0 = .ok (.aload_n 0, 1) := by decide +kernel
theorem dX5_storeItem_1 : decode cX5_storeItem 1 = .ok (.iconst 1, 1) := by decide +kernel
theorem dX5_storeItem_2 : decode cX5_storeItem 2 = .ok (.invokevirtual 231, 3) := by decide +kernel
theorem dX5_storeItem_5 : decode cX5_storeItem 5 = .ok (.aload_n 0, 1) := by decide +kernel
theorem dX5_storeItem_6 : decode cX5_storeItem 6 = .ok (.iconst 0, 1) := by decide +kernel
theorem dX5_storeItem_7 : decode cX5_storeItem 7 = .ok (.bipush 11, 2) := by decide +kernel
theorem dX5_storeItem_9 : decode cX5_storeItem 9 = .ok (.invokevirtual 253, 3) := by decide +kernel
theorem dX5_storeItem_12 : decode cX5_storeItem 12 = .ok (.aload_n 0, 1) := by decide +kernel
theorem dX5_storeItem_13 : decode cX5_storeItem 13 = .ok (.getfield 228, 3) := by decide +kernel
theorem dX5_storeItem_16 : decode cX5_storeItem 16 = .ok (.istore_n 1, 1) := by decide +kernel
theorem dX5_storeItem_17 : decode cX5_storeItem 17 = .ok (.aload_n 0, 1) := by decide +kernel
theorem dX5_storeItem_18 : decode cX5_storeItem 18 = .ok (.iconst 0, 1) := by decide +kernel
theorem dX5_storeItem_19 : decode cX5_storeItem 19 = .ok (.sipush 9999, 3) := by decide +kernel
theorem dX5_storeItem_22 : decode cX5_storeItem 22 = .ok (.invokevirtual 253, 3) := by decide +kernel
theorem dX5_storeItem_25 : decode cX5_storeItem 25 = .ok (.aload_n 0, 1) := by decide +kernel
theorem dX5_storeItem_26 : decode cX5_storeItem 26 = .ok (.getfield 217, 3) := by decide +kernel
theorem dX5_storeItem_29 : decode cX5_storeItem 29 = .ok (.ifCond .ne 16, 3) := by decide +kernel
theorem dX5_storeItem_32 : decode cX5_storeItem 32 = .ok (.aload_n 0, 1) := by decide +kernel
theorem dX5_storeItem_33 : decode cX5_storeItem 33 = .ok (.getfield 7, 3) := by decide +kernel
theorem dX5_storeItem_36 : decode cX5_storeItem 36 = .ok (.bipush 14, 2) := by decide +kernel
theorem dX5_storeItem_38 : decode cX5_storeItem 38 = .ok (.iload_n 1, 1) := by decide +kernel
theorem dX5_storeItem_39 : decode cX5_storeItem 39 = .ok (.iadd, 1) := by decide +kernel
theorem dX5_storeItem_40 : decode cX5_storeItem 40 = .ok (.aload_n 0, 1) := by decide +kernel
theorem dX5_storeItem_41 : decode cX5_storeItem 41 = .ok (.getfield 228, 3) := by decide +kernel
theorem dX5_storeItem_44 : decode cX5_storeItem 44 = .ok (.iastore, 1) := by decide +kernel
theorem dX5_storeItem_45 : decode cX5_storeItem 45 = .ok (.return_, 1) := by decide +kernel
theorem dX5_item_0 : decode cX5_item 0 = .ok (.aload_n 0, 1) := by decide +kernel
theorem dX5_item_1 : decode cX5_item 1 = .ok (.invokevirtual 257, 3) := by decide +kernel
theorem dX5_item_4 : decode cX5_item 4 = .ok (.istore_n 1, 1) := by decide +kernel
theorem dX5_item_5 : decode cX5_item 5 = .ok (.aload_n 0, 1) := by decide +kernel
theorem dX5_item_6 : decode cX5_item 6 = .ok (.invokevirtual 235, 3) := by decide +kernel
theorem dX5_item_9 : decode cX5_item 9 = .ok (.lstore_n 2, 1) := by decide +kernel
theorem dX5_item_10 : decode cX5_item 10 = .ok (.iload_n 1, 1) := by decide +kernel
theorem dX5_item_11 : decode cX5_item 11 = .ok (.ifCond .lt 11, 3) := by decide +kernel
theorem dX5_item_14 : decode cX5_item 14 = .ok (.aload_n 0, 1) := by decide +kernel
theorem dX5_item_15 : decode cX5_item 15 = .ok (.iload_n 1, 1) := by decide +kernel
theorem dX5_item_16 : decode cX5_item 16 = .ok (.invokevirtual 260, 3) := by decide +kernel
theorem dX5_item_19 : decode cX5_item 19 = .ok (.goto 70, 3) := by decide +kernel
theorem dX5_item_22 : decode cX5_item 22 = .ok (.lload_n 2, 1) := by decide +kernel
theorem dX5_item_23 : decode cX5_item 23 = .ok (.ldc2_w 263, 3) := by decide +kernel
theorem dX5_item_26 : decode cX5_item 26 = .ok (.lcmp, 1) := by decide +kernel
theorem dX5_item_27 : decode cX5_item 27 = .ok (.ifCond .ne 11, 3) := by decide +kernel
theorem dX5_item_30 : decode cX5_item 30 = .ok (.aload_n 0, 1) := by decide +kernel
theorem dX5_item_31 : decode cX5_item 31 = .ok (.iconst (-1), 1) := by decide +kernel
theorem dX5_item_32 : decode cX5_item 32 = .ok (.invokevirtual 265, 3) := by decide +kernel
theorem dX5_item_35 : decode cX5_item 35 = .ok (.goto 54, 3) := by decide +kernel
theorem dX5_item_38 : decode cX5_item 38 = .ok (.lload_n 2, 1) := by decide +kernel
theorem dX5_item_39 : decode cX5_item 39 = .ok (.ldc2_w 268, 3) := by decide +kernel
theorem dX5_item_42 : decode cX5_item 42 = .ok (.lcmp, 1) := by decide +kernel
theorem dX5_item_43 : decode cX5_item 43 = .ok (.ifCond .ne 11, 3) := by decide +kernel
theorem dX5_item_46 : decode cX5_item 46 = .ok (.aload_n 0, 1) := by decide +kernel
theorem dX5_item_47 : decode cX5_item 47 = .ok (.iconst 1, 1) := by decide +kernel
theorem dX5_item_48 : decode cX5_item 48 = .ok (.invokevirtual 265, 3) := by decide +kernel
theorem dX5_item_51 : decode cX5_item 51 = .ok (.goto 38, 3) := by decide +kernel
theorem dX5_item_54 : decode cX5_item 54 = .ok (.lload_n 2, 1) := by decide +kernel
theorem dX5_item_55 : decode cX5_item 55 = .ok (.ldc2_w 270, 3) := by decide +kernel
theorem dX5_item_58 : decode cX5_item 58 = .ok (.lcmp, 1) := by decide +kernel
theorem dX5_item_59 : decode cX5_item 59 = .ok (.ifCond .ne 10, 3) := by decide +kernel
theorem dX5_item_62 : decode cX5_item 62 = .ok (.aload_n 0, 1) := by decide +kernel
theorem dX5_item_63 : decode cX5_item 63 = .ok (.invokevirtual 272, 3) := by decide +kernel
theorem dX5_item_66 : decode cX5_item 66 = .ok (.goto 23, 3) := by decide +kernel
theorem dX5_item_69 : decode cX5_item 69 = .ok (.lload_n 2, 1) := by decide +kernel
theorem dX5_item_70 : decode cX5_item 70 = .ok (.ldc2_w 275, 3) := by decide +kernel
theorem dX5_item_73 : decode cX5_item 73 = .ok (.lcmp, 1) := by decide +kernel
theorem dX5_item_74 : decode cX5_item 74 = .ok (.ifCond .ne 10, 3) := by decide +kernel
theorem dX5_item_77 : decode cX5_item 77 = .ok (.aload_n 0, 1) := by decide +kernel
theorem dX5_item_78 : decode cX5_item 78 = .ok (.invokevirtual 277, 3) := by decide +kernel
theorem dX5_item_81 : decode cX5_item 81 = .ok (.goto 8, 3) := by decide +kernel
theorem dX5_item_84 : decode cX5_item 84 = .ok (.aload_n 0, 1) := by decide +kernel
theorem dX5_item_85 : decode cX5_item 85 = .ok (.iconst 0, 1) := by decide +kernel
theorem dX5_item_86 : decode cX5_item 86 = .ok (.invokevirtual 231, 3) := by decide +kernel
theorem dX5_item_89 : decode cX5_item 89 = .ok (.return_, 1) := by decide +kernel
theorem dX5_parish_0 : decode cX5_parish 0 = .ok (.aload_n 0, 1) := by decide +kernel
theorem dX5_parish_1 : decode cX5_parish 1 = .ok (.invokevirtual 280, 3) := by decide +kernel
theorem dX5_parish_4 : decode cX5_parish 4 = .ok (.aload_n 0, 1) := by decide +kernel
theorem dX5_parish_5 : decode cX5_parish 5 = .ok (.iconst 0, 1) := by decide +kernel
theorem dX5_parish_6 : decode cX5_parish 6 = .ok (.putfield 217, 3) := by decide +kernel
theorem dX5_parish_9 : decode cX5_parish 9 = .ok (.aload_n 0, 1) := by decide +kernel
theorem dX5_parish_10 : decode cX5_parish 10 = .ok (.iconst 0, 1) := by decide +kernel
theorem dX5_parish_11 : decode cX5_parish 11 = .ok (.putfield 202, 3) := by decide +kernel
theorem dX5_parish_14 : decode cX5_parish 14 = .ok (.aload_n 0, 1) := by decide +kernel
theorem dX5_parish_15 : decode cX5_parish 15 = .ok (.invokevirtual 221, 3) := by decide +kernel
theorem dX5_parish_18 : decode cX5_parish 18 = .ok (.iconst 1, 1) := by decide +kernel
theorem dX5_parish_19 : decode cX5_parish 19 = .ok (.istore_n 1, 1) := by decide +kernel
theorem dX5_parish_20 : decode cX5_parish 20 = .ok (.aload_n 0, 1) := by decide +kernel
theorem dX5_parish_21 : decode cX5_parish 21 = .ok (.invokevirtual 283, 3) := by decide +kernel
theorem dX5_parish_24 : decode cX5_parish 24 = .ok (.aload_n 0, 1) := by decide +kernel
theorem dX5_parish_25 : decode cX5_parish 25 = .ok (.getfield 217, 3) := by decide +kernel
theorem dX5_parish_28 : decode cX5_parish 28 = .ok (.ifCond .ne 31, 3) := by decide +kernel
theorem dX5_parish_31 : decode cX5_parish 31 = .ok (.aload_n 0, 1) := by decide +kernel
theorem dX5_parish_32 : decode cX5_parish 32 = .ok (.aload_n 0, 1) := by decide +kernel
theorem dX5_parish_33 : decode cX5_parish 33 = .ok (.getfield 205, 3) := by decide +kernel
theorem dX5_parish_36 : decode cX5_parish 36 = .ok (.invokevirtual 208, 3) := by decide +kernel
theorem dX5_parish_39 : decode cX5_parish 39 = .ok (.bipush 59, 2) := by decide +kernel
theorem dX5_parish_41 : decode cX5_parish 41 = .ok (.if_icmp .ne 18, 3) := by decide +kernel
theorem dX5_parish_44 : decode cX5_parish 44 = .ok (.aload_n 0, 1) := by decide +kernel
theorem dX5_parish_45 : decode cX5_parish 45 = .ok (.iconst 1, 1) := by decide +kernel
theorem dX5_parish_46 : decode cX5_parish 46 = .ok (.invokevirtual 231, 3) := by decide +kernel
theorem dX5_parish_49 : decode cX5_parish 49 = .ok (.aload_n 0, 1) := by decide +kernel
theorem dX5_parish_50 : decode cX5_parish 50 = .ok (.invokevirtual 283, 3) := by decide +kernel
theorem dX5_parish_53 : decode cX5_parish 53 = .ok (.iinc 1 1, 3) := by decide +kernel
theorem dX5_parish_56 : decode cX5_parish 56 = .ok (.goto (-32), 3) := by decide +kernel
theorem dX5_parish_59 : decode cX5_parish 59 = .ok (.aload_n 0, 1) := by decide +kernel
theorem dX5_parish_60 : decode cX5_parish 60 = .ok (.aload_n 0, 1) := by decide +kernel
theorem dX5_parish_61 : decode cX5_parish 61 = .ok (.getfield 217, 3) := by decide +kernel
theorem dX5_parish_64 : decode cX5_parish 64 = .ok (.ifCond .ne 14, 3) := by decide +kernel
theorem dX5_parish_67 : decode cX5_parish 67 = .ok (.aload_n 0, 1) := by decide +kernel
theorem dX5_parish_68 : decode cX5_parish 68 = .ok (.getfield 205, 3) := by decide +kernel
theorem dX5_parish_71 : decode cX5_parish 71 = .ok (.aload_n 0, 1) := by decide +kernel
theorem dX5_parish_72 : decode cX5_parish 72 = .ok (.getfield 190, 3) := by decide +kernel
theorem dX5_parish_75 : decode cX5_parish 75 = .ok (.if_icmp .ge 7, 3) := by decide +kernel
theorem dX5_parish_78 : decode cX5_parish 78 = .ok (.iconst 1, 1) := by decide +kernel
theorem dX5_parish_79 : decode cX5_parish 79 = .ok (.goto 4, 3) := by decide +kernel
theorem dX5_parish_82 : decode cX5_parish 82 = .ok (.iconst 0, 1) := by decide +kernel
theorem dX5_parish_83 : decode cX5_parish 83 = .ok (.putfield 217, 3) := by decide +kernel
theorem dX5_parish_86 : decode cX5_parish 86 = .ok (.aload_n 0, 1) := by decide +kernel
theorem dX5_parish_87 : decode cX5_parish 87 = .ok (.getfield 217, 3) := by decide +kernel
theorem dX5_parish_90 : decode cX5_parish 90 = .ok (.ifCond .eq 7, 3) := by decide +kernel
theorem dX5_parish_93 : decode cX5_parish 93 = .ok (.aload_n 0, 1) := by decide +kernel
theorem dX5_parish_94 : decode cX5_parish 94 = .ok (.invokevirtual 286, 3) := by decide +kernel
theorem dX5_parish_97 : decode cX5_parish 97 = .ok (.aload_n 0, 1) := by decide +kernel
theorem dX5_parish_98 : decode cX5_parish 98 = .ok (.iconst 0, 1) := by decide +kernel
theorem dX5_parish_99 : decode cX5_parish 99 = .ok (.putfield 190, 3) := by decide +kernel
theorem dX5_parish_102 : decode cX5_parish 102 = .ok (.aload_n 0, 1) := by decide +kernel
theorem dX5_parish_103 : decode cX5_parish 103 = .ok (.getfield 217, 3) := by decide +kernel
theorem dX5_parish_106 : decode cX5_parish 106 = .ok (.ifCond .eq 12, 3) := by decide +kernel
theorem dX5_parish_109 : decode cX5_parish 109 = .ok (.iconst (-1), 1) := by decide +kernel
theorem dX5_parish_110 : decode cX5_parish 110 = .ok (.aload_n 0, 1) := by decide +kernel
theorem dX5_parish_111 : decode cX5_parish 111 = .ok (.getfield 205, 3) := by decide +kernel
theorem dX5_parish_114 : decode cX5_parish 114 = .ok (.isub, 1) := by decide +kernel
theorem dX5_parish_115 : decode cX5_parish 115 = .ok (.goto 4, 3) := by decide +kernel
theorem dX5_parish_118 : decode cX5_parish 118 = .ok (.iload_n 1, 1) := by decide +kernel
theorem dX5_parish_119 : decode cX5_parish 119 = .ok (.ireturn, 1) := by decide +kernel
theorem dX5_isOne_0 : decode cX5_isOne 0 = .ok (.iload_n 0, 1) := by decide +kernel
theorem dX5_isOne_1 : decode cX5_isOne 1 = .ok (.i2l, 1) := by decide +kernel
theorem dX5_isOne_2 : decode cX5_isOne 2 = .ok (.lconst 0, 1) := by decide +kernel
theorem dX5_isOne_3 : decode cX5_isOne 3 = .ok (.ldc2_w 52, 3) := by decide +kernel
theorem dX5_isOne_6 : decode cX5_isOne 6 = .ok (.invokestatic 46, 3) := by decide +kernel
theorem dX5_isOne_9 : decode cX5_isOne 9 = .ok (.ireturn, 1) := by decide +kernel
theorem dX5_sheet_0 : decode cX5_sheet 0 = .ok (.iload_n 1, 1) := by decide +kernel
theorem dX5_sheet_1 : decode cX5_sheet 1 = .ok (.invokestatic 289, 3) := by decide +kernel
theorem dX5_sheet_4 : decode cX5_sheet 4 = .ok (.ifCond .eq 25, 3) := by decide +kernel
theorem dX5_sheet_7 : decode cX5_sheet 7 = .ok (.iload_n 2, 1) := by decide +kernel
theorem dX5_sheet_8 : decode cX5_sheet 8 = .ok (.ifCond .eq 28, 3) := by decide +kernel
theorem dX5_sheet_11 : decode cX5_sheet 11 = .ok (.iload_n 2, 1) := by decide +kernel
theorem dX5_sheet_12 : decode cX5_sheet 12 = .ok (.bipush 8, 2) := by decide +kernel
theorem dX5_sheet_14 : decode cX5_sheet 14 = .ok (.if_icmp .eq 22, 3) := by decide +kernel
theorem dX5_sheet_17 : decode cX5_sheet 17 = .ok (.iload_n 2, 1) := by decide +kernel
theorem dX5_sheet_18 : decode cX5_sheet 18 = .ok (.bipush 16, 2) := by decide +kernel
theorem dX5_sheet_20 : decode cX5_sheet 20 = .ok (.if_icmp .eq 16, 3) := by decide +kernel
theorem dX5_sheet_23 : decode cX5_sheet 23 = .ok (.iload_n 2, 1) := by decide +kernel
theorem dX5_sheet_24 : decode cX5_sheet 24 = .ok (.bipush 64, 2) := by decide +kernel
theorem dX5_sheet_26 : decode cX5_sheet 26 = .ok (.if_icmp .eq 10, 3) := by decide +kernel
theorem dX5_sheet_29 : decode cX5_sheet 29 = .ok (.aload_n 0, 1) := by decide +kernel
theorem dX5_sheet_30 : decode cX5_sheet 30 = .ok (.ldc 41, 2) := by decide +kernel
theorem dX5_sheet_32 : decode cX5_sheet 32 = .ok (.invokevirtual 78, 3) := by decide +kernel
theorem dX5_sheet_35 : decode cX5_sheet 35 = .ok (.ireturn, 1) := by decide +kernel
theorem dX5_sheet_36 : decode cX5_sheet 36 = .ok (.iload_n 3, 1) := by decide +kernel
theorem dX5_sheet_37 : decode cX5_sheet 37 = .ok (.ifCond .ge 11, 3) := by decide +kernel
theorem dX5_sheet_40 : decode cX5_sheet 40 = .ok (.aload_n 0, 1) := by decide +kernel
theorem dX5_sheet_41 : decode cX5_sheet 41 = .ok (.ldc_w 292, 3) := by decide +kernel
theorem dX5_sheet_44 : decode cX5_sheet 44 = .ok (.invokevirtual 78, 3) := by decide +kernel
theorem dX5_sheet_47 : decode cX5_sheet 47 = .ok (.ireturn, 1) := by decide +kernel
theorem dX5_sheet_48 : decode cX5_sheet 48 = .ok (.iload_n 3, 1) := by decide +kernel
theorem dX5_sheet_49 : decode cX5_sheet 49 = .ok (.bipush 40, 2) := by decide +kernel
theorem dX5_sheet_51 : decode cX5_sheet 51 = .ok (.if_icmp .le 10, 3) := by decide +kernel
theorem dX5_sheet_54 : decode cX5_sheet 54 = .ok (.aload_n 0, 1) := by decide +kernel
theorem dX5_sheet_55 : decode cX5_sheet 55 = .ok (.ldc 41, 2) := by decide +kernel
theorem dX5_sheet_57 : decode cX5_sheet 57 = .ok (.invokevirtual 78, 3) := by decide +kernel
theorem dX5_sheet_60 : decode cX5_sheet 60 = .ok (.ireturn, 1) := by decide +kernel
theorem dX5_sheet_61 : decode cX5_sheet 61 = .ok (.aload_n 0, 1) := by decide +kernel
theorem dX5_sheet_62 : decode cX5_sheet 62 = .ok (.getfield 28, 3) := by decide +kernel
theorem dX5_sheet_65 : decode cX5_sheet 65 = .ok (.iload_n 1, 1) := by decide +kernel
theorem dX5_sheet_66 : decode cX5_sheet 66 = .ok (.iload_n 2, 1) := by decide +kernel
theorem dX5_sheet_67 : decode cX5_sheet 67 = .ok (.iastore, 1) := by decide +kernel
theorem dX5_sheet_68 : decode cX5_sheet 68 = .ok (.aload_n 0, 1) := by decide +kernel
theorem dX5_sheet_69 : decode cX5_sheet 69 = .ok (.getfield 31, 3) := by decide +kernel
theorem dX5_sheet_72 : decode cX5_sheet 72 = .ok (.iload_n 1, 1) := by decide +kernel
theorem dX5_sheet_73 : decode cX5_sheet 73 = .ok (.iload_n 2, 1) := by decide +kernel
theorem dX5_sheet_74 : decode cX5_sheet 74 = .ok (.ifCond .ne 7, 3) := by decide +kernel
theorem dX5_sheet_77 : decode cX5_sheet 77 = .ok (.iconst 0, 1) := by decide +kernel
theorem dX5_sheet_78 : decode cX5_sheet 78 = .ok (.goto 4, 3) := by decide +kernel
theorem dX5_sheet_81 : decode cX5_sheet 81 = .ok (.iload_n 3, 1) := by decide +kernel
theorem dX5_sheet_82 : decode cX5_sheet 82 = .ok (.iastore, 1) := by decide +kernel
theorem dX5_sheet_83 : decode cX5_sheet 83 = .ok (.iconst 0, 1) := by decide +kernel
theorem dX5_sheet_84 : decode cX5_sheet 84 = .ok (.istore 4, 2) := by decide +kernel
theorem dX5_sheet_86 : decode cX5_sheet 86 = .ok (.iload 4, 2) := by decide +kernel
theorem dX5_sheet_88 : decode cX5_sheet 88 = .ok (.bipush 40, 2) := by decide +kernel
theorem dX5_sheet_90 : decode cX5_sheet 90 = .ok (.if_icmp .ge 22, 3) := by decide +kernel
theorem dX5_sheet_93 : decode cX5_sheet 93 = .ok (.aload_n 0, 1) := by decide +kernel
theorem dX5_sheet_94 : decode cX5_sheet 94 = .ok (.getfield 34, 3) := by decide +kernel
theorem dX5_sheet_97 : decode cX5_sheet 97 = .ok (.bipush 40, 2) := by decide +kernel
theorem dX5_sheet_99 : decode cX5_sheet 99 = .ok (.iload_n 1, 1) := by decide +kernel
theorem dX5_sheet_100 : decode cX5_sheet 100 = .ok (.imul, 1) := by decide +kernel
theorem dX5_sheet_101 : decode cX5_sheet 101 = .ok (.iload 4, 2) := by decide +kernel
theorem dX5_sheet_103 : decode cX5_sheet 103 = .ok (.iadd, 1) := by decide +kernel
theorem dX5_sheet_104 : decode cX5_sheet 104 = .ok (.lconst 0, 1) := by decide +kernel
theorem dX5_sheet_105 : decode cX5_sheet 105 = .ok (.lastore, 1) := by decide +kernel
theorem dX5_sheet_106 : decode cX5_sheet 106 = .ok (.iinc 4 1, 3) := by decide +kernel
theorem dX5_sheet_109 : decode cX5_sheet 109 = .ok (.goto (-23), 3) := by decide +kernel
theorem dX5_sheet_112 : decode cX5_sheet 112 = .ok (.aload_n 0, 1) := by decide +kernel
theorem dX5_sheet_113 : decode cX5_sheet 113 = .ok (.getfield 31, 3) := by decide +kernel
theorem dX5_sheet_116 : decode cX5_sheet 116 = .ok (.iload_n 1, 1) := by decide +kernel
theorem dX5_sheet_117 : decode cX5_sheet 117 = .ok (.iaload, 1) := by decide +kernel
theorem dX5_sheet_118 : decode cX5_sheet 118 = .ok (.ireturn, 1) := by decide +kernel
theorem dX5_narrowed_0 : decode cX5_narrowed 0 = .ok (.iload_n 0, 1) := by decide +kernel
theorem dX5_narrowed_1 : decode cX5_narrowed 1 = .ok (.bipush 8, 2) := by decide +kernel
theorem dX5_narrowed_3 : decode cX5_narrowed 3 = .ok (.if_icmp .ne 10, 3) := by decide +kernel
theorem dX5_narrowed_6 : decode cX5_narrowed 6 = .ok (.lload_n 1, 1) := by decide +kernel
theorem dX5_narrowed_7 : decode cX5_narrowed 7 = .ok (.l2i, 1) := by decide +kernel
theorem dX5_narrowed_8 : decode cX5_narrowed 8 = .ok (.i2b, 1) := by decide +kernel
theorem dX5_narrowed_9 : decode cX5_narrowed 9 = .ok (.i2l, 1) := by decide +kernel
theorem dX5_narrowed_10 : decode cX5_narrowed 10 = .ok (.goto 17, 3) := by decide +kernel
theorem dX5_narrowed_13 : decode cX5_narrowed 13 = .ok (.iload_n 0, 1) := by decide +kernel
theorem dX5_narrowed_14 : decode cX5_narrowed 14 = .ok (.bipush 16, 2) := by decide +kernel
theorem dX5_narrowed_16 : decode cX5_narrowed 16 = .ok (.if_icmp .ne 10, 3) := by decide +kernel
theorem dX5_narrowed_19 : decode cX5_narrowed 19 = .ok (.lload_n 1, 1) := by decide +kernel
theorem dX5_narrowed_20 : decode cX5_narrowed 20 = .ok (.l2i, 1) := by decide +kernel
theorem dX5_narrowed_21 : decode cX5_narrowed 21 = .ok (.i2s, 1) := by decide +kernel
theorem dX5_narrowed_22 : decode cX5_narrowed 22 = .ok (.i2l, 1) := by decide +kernel
theorem dX5_narrowed_23 : decode cX5_narrowed 23 = .ok (.goto 4, 3) := by decide +kernel
theorem dX5_narrowed_26 : decode cX5_narrowed 26 = .ok (.lload_n 1, 1) := by decide +kernel
theorem dX5_narrowed_27 : decode cX5_narrowed 27 = .ok (.lreturn, 1) := by decide +kernel
theorem dX5_wrongSheet_0 : decode cX5_wrongSheet 0 = .ok (.iload_n 1, 1) := by decide +kernel
theorem dX5_wrongSheet_1 : decode cX5_wrongSheet 1 = .ok (.invokestatic 289, 3) := by decide +kernel
theorem dX5_wrongSheet_4 : decode cX5_wrongSheet 4 = .ok (.ifCond .ne 8, 3) := by decide +kernel
theorem dX5_wrongSheet_7 : decode cX5_wrongSheet 7 = .ok (.ldc 41, 2) := by decide +kernel
theorem dX5_wrongSheet_9 : decode cX5_wrongSheet 9 = .ok (.goto 19, 3) := by decide +kernel
theorem dX5_wrongSheet_12 : decode cX5_wrongSheet 12 = .ok (.aload_n 0, 1) := by decide +kernel
theorem dX5_wrongSheet_13 : decode cX5_wrongSheet 13 = .ok (.getfield 28, 3) := by decide +kernel
theorem dX5_wrongSheet_16 : decode cX5_wrongSheet 16 = .ok (.iload_n 1, 1) := by decide +kernel
theorem dX5_wrongSheet_17 : decode cX5_wrongSheet 17 = .ok (.iaload, 1) := by decide +kernel
theorem dX5_wrongSheet_18 : decode cX5_wrongSheet 18 = .ok (.ifCond .ne 9, 3) := by decide +kernel
theorem dX5_wrongSheet_21 : decode cX5_wrongSheet 21 = .ok (.ldc_w 293, 3) := by decide +kernel
theorem dX5_wrongSheet_24 : decode cX5_wrongSheet 24 = .ok (.goto 4, 3) := by decide +kernel
theorem dX5_wrongSheet_27 : decode cX5_wrongSheet 27 = .ok (.iconst 0, 1) := by decide +kernel
theorem dX5_wrongSheet_28 : decode cX5_wrongSheet 28 = .ok (.ireturn, 1) := by decide +kernel
theorem dX5_write_0 : decode cX5_write 0 = .ok (.aload_n 0, 1) := by decide +kernel
theorem dX5_write_1 : decode cX5_write 1 = .ok (.iload_n 1, 1) := by decide +kernel
theorem dX5_write_2 : decode cX5_write 2 = .ok (.invokevirtual 294, 3) := by decide +kernel
theorem dX5_write_5 : decode cX5_write 5 = .ok (.istore 5, 2) := by decide +kernel
theorem dX5_write_7 : decode cX5_write 7 = .ok (.iload 5, 2) := by decide +kernel
theorem dX5_write_9 : decode cX5_write 9 = .ok (.ifCond .eq 11, 3) := by decide +kernel
theorem dX5_write_12 : decode cX5_write 12 = .ok (.aload_n 0, 1) := by decide +kernel
theorem dX5_write_13 : decode cX5_write 13 = .ok (.iload 5, 2) := by decide +kernel
theorem dX5_write_15 : decode cX5_write 15 = .ok (.invokevirtual 78, 3) := by decide +kernel
theorem dX5_write_18 : decode cX5_write 18 = .ok (.i2l, 1) := by decide +kernel
theorem dX5_write_19 : decode cX5_write 19 = .ok (.lreturn, 1) := by decide +kernel
theorem dX5_write_20 : decode cX5_write 20 = .ok (.iload_n 2, 1) := by decide +kernel
theorem dX5_write_21 : decode cX5_write 21 = .ok (.i2l, 1) := by decide +kernel
theorem dX5_write_22 : decode cX5_write 22 = .ok (.lconst 0, 1) := by decide +kernel
theorem dX5_write_23 : decode cX5_write 23 = .ok (.aload_n 0, 1) := by decide +kernel
theorem dX5_write_24 : decode cX5_write 24 = .ok (.getfield 31, 3) := by decide +kernel
theorem dX5_write_27 : decode cX5_write 27 = .ok (.iload_n 1, 1) := by decide +kernel
theorem dX5_write_28 : decode cX5_write 28 = .ok (.iaload, 1) := by decide +kernel
theorem dX5_write_29 : decode cX5_write 29 = .ok (.iconst 1, 1) := by decide +kernel
theorem dX5_write_30 : decode cX5_write 30 = .ok (.isub, 1) := by decide +kernel
theorem dX5_write_31 : decode cX5_write 31 = .ok (.i2l, 1) := by decide +kernel
theorem dX5_write_32 : decode cX5_write 32 = .ok (.invokestatic 46, 3) := by decide +kernel
theorem dX5_write_35 : decode cX5_write 35 = .ok (.ifCond .ne 11, 3) := by decide +kernel
theorem dX5_write_38 : decode cX5_write 38 = .ok (.aload_n 0, 1) := by decide +kernel
theorem dX5_write_39 : decode cX5_write 39 = .ok (.ldc 41, 2) := by decide +kernel
theorem dX5_write_41 : decode cX5_write 41 = .ok (.invokevirtual 78, 3) := by decide +kernel
theorem dX5_write_44 : decode cX5_write 44 = .ok (.i2l, 1) := by decide +kernel
theorem dX5_write_45 : decode cX5_write 45 = .ok (.lreturn, 1) := by decide +kernel
theorem dX5_write_46 : decode cX5_write 46 = .ok (.aload_n 0, 1) := by decide +kernel
theorem dX5_write_47 : decode cX5_write 47 = .ok (.getfield 34, 3) := by decide +kernel
theorem dX5_write_50 : decode cX5_write 50 = .ok (.bipush 40, 2) := by decide +kernel
theorem dX5_write_52 : decode cX5_write 52 = .ok (.iload_n 1, 1) := by decide +kernel
theorem dX5_write_53 : decode cX5_write 53 = .ok (.imul, 1) := by decide +kernel
theorem dX5_write_54 : decode cX5_write 54 = .ok (.iload_n 2, 1) := by decide +kernel
theorem dX5_write_55 : decode cX5_write 55 = .ok (.iadd, 1) := by decide +kernel
theorem dX5_write_56 : decode cX5_write 56 = .ok (.laload, 1) := by decide +kernel
theorem dX5_write_57 : decode cX5_write 57 = .ok (.lstore 6, 2) := by decide +kernel
theorem dX5_write_59 : decode cX5_write 59 = .ok (.aload_n 0, 1) := by decide +kernel
theorem dX5_write_60 : decode cX5_write 60 = .ok (.getfield 34, 3) := by decide +kernel
theorem dX5_write_63 : decode cX5_write 63 = .ok (.bipush 40, 2) := by decide +kernel
theorem dX5_write_65 : decode cX5_write 65 = .ok (.iload_n 1, 1) := by decide +kernel
theorem dX5_write_66 : decode cX5_write 66 = .ok (.imul, 1) := by decide +kernel
theorem dX5_write_67 : decode cX5_write 67 = .ok (.iload_n 2, 1) := by decide +kernel
theorem dX5_write_68 : decode cX5_write 68 = .ok (.iadd, 1) := by decide +kernel
theorem dX5_write_69 : decode cX5_write 69 = .ok (.aload_n 0, 1) := by decide +kernel
theorem dX5_write_70 : decode cX5_write 70 = .ok (.getfield 28, 3) := by decide +kernel
theorem dX5_write_73 : decode cX5_write 73 = .ok (.iload_n 1, 1) := by decide +kernel
theorem dX5_write_74 : decode cX5_write 74 = .ok (.iaload, 1) := by decide +kernel
theorem dX5_write_75 : decode cX5_write 75 = .ok (.lload_n 3, 1) := by decide +kernel
theorem dX5_write_76 : decode cX5_write 76 = .ok (.invokestatic 297, 3) := by decide +kernel
theorem dX5_write_79 : decode cX5_write 79 = .ok (.lastore, 1) := by decide +kernel
theorem dX5_write_80 : decode cX5_write 80 = .ok (.lload 6, 2) := by decide +kernel
theorem dX5_write_82 : decode cX5_write 82 = .ok (.lreturn, 1) := by decide +kernel
theorem dX5_copy_0 : decode cX5_copy 0 = .ok (.iload_n 1, 1) := by decide +kernel
theorem dX5_copy_1 : decode cX5_copy 1 = .ok (.invokestatic 289, 3) := by decide +kernel
theorem dX5_copy_4 : decode cX5_copy 4 = .ok (.ifCond .eq 10, 3) := by decide +kernel
theorem dX5_copy_7 : decode cX5_copy 7 = .ok (.iload_n 3, 1) := by decide +kernel
theorem dX5_copy_8 : decode cX5_copy 8 = .ok (.invokestatic 289, 3) := by decide +kernel
theorem dX5_copy_11 : decode cX5_copy 11 = .ok (.ifCond .ne 10, 3) := by decide +kernel
theorem dX5_copy_14 : decode cX5_copy 14 = .ok (.aload_n 0, 1) := by decide +kernel
theorem dX5_copy_15 : decode cX5_copy 15 = .ok (.ldc 41, 2) := by decide +kernel
theorem dX5_copy_17 : decode cX5_copy 17 = .ok (.invokevirtual 78, 3) := by decide +kernel
theorem dX5_copy_20 : decode cX5_copy 20 = .ok (.ireturn, 1) := by decide +kernel
theorem dX5_copy_21 : decode cX5_copy 21 = .ok (.aload_n 0, 1) := by decide +kernel
theorem dX5_copy_22 : decode cX5_copy 22 = .ok (.getfield 28, 3) := by decide +kernel
theorem dX5_copy_25 : decode cX5_copy 25 = .ok (.iload_n 1, 1) := by decide +kernel
theorem dX5_copy_26 : decode cX5_copy 26 = .ok (.iaload, 1) := by decide +kernel
theorem dX5_copy_27 : decode cX5_copy 27 = .ok (.ifCond .eq 12, 3) := by decide +kernel
theorem dX5_copy_30 : decode cX5_copy 30 = .ok (.aload_n 0, 1) := by decide +kernel
theorem dX5_copy_31 : decode cX5_copy 31 = .ok (.getfield 28, 3) := by decide +kernel
theorem dX5_copy_34 : decode cX5_copy 34 = .ok (.iload_n 3, 1) := by decide +kernel
theorem dX5_copy_35 : decode cX5_copy 35 = .ok (.iaload, 1) := by decide +kernel
theorem dX5_copy_36 : decode cX5_copy 36 = .ok (.ifCond .ne 11, 3) := by decide +kernel
theorem dX5_copy_39 : decode cX5_copy 39 = .ok (.aload_n 0, 1) := by decide +kernel
theorem dX5_copy_40 : decode cX5_copy 40 = .ok (.ldc_w 293, 3) := by decide +kernel
theorem dX5_copy_43 : decode cX5_copy 43 = .ok (.invokevirtual 78, 3) := by decide +kernel
theorem dX5_copy_46 : decode cX5_copy 46 = .ok (.ireturn, 1) := by decide +kernel
theorem dX5_copy_47 : decode cX5_copy 47 = .ok (.aload_n 0, 1) := by decide +kernel
theorem dX5_copy_48 : decode cX5_copy 48 = .ok (.getfield 28, 3) := by decide +kernel
theorem dX5_copy_51 : decode cX5_copy 51 = .ok (.iload_n 1, 1) := by decide +kernel
theorem dX5_copy_52 : decode cX5_copy 52 = .ok (.iaload, 1) := by decide +kernel
theorem dX5_copy_53 : decode cX5_copy 53 = .ok (.aload_n 0, 1) := by decide +kernel
theorem dX5_copy_54 : decode cX5_copy 54 = .ok (.getfield 28, 3) := by decide +kernel
theorem dX5_copy_57 : decode cX5_copy 57 = .ok (.iload_n 3, 1) := by decide +kernel
theorem dX5_copy_58 : decode cX5_copy 58 = .ok (.iaload, 1) := by decide +kernel
theorem dX5_copy_59 : decode cX5_copy 59 = .ok (.if_icmp .eq 10, 3) := by decide +kernel
theorem dX5_copy_62 : decode cX5_copy 62 = .ok (.aload_n 0, 1) := by decide +kernel
theorem dX5_copy_63 : decode cX5_copy 63 = .ok (.ldc 121, 2) := by decide +kernel
theorem dX5_copy_65 : decode cX5_copy 65 = .ok (.invokevirtual 78, 3) := by decide +kernel
theorem dX5_copy_68 : decode cX5_copy 68 = .ok (.ireturn, 1) := by decide +kernel
theorem dX5_copy_69 : decode cX5_copy 69 = .ok (.iload_n 2, 1) := by decide +kernel
theorem dX5_copy_70 : decode cX5_copy 70 = .ok (.ifCond .lt 40, 3) := by decide +kernel
theorem dX5_copy_73 : decode cX5_copy 73 = .ok (.iload 4, 2) := by decide +kernel
theorem dX5_copy_75 : decode cX5_copy 75 = .ok (.ifCond .lt 35, 3) := by decide +kernel
theorem dX5_copy_78 : decode cX5_copy 78 = .ok (.iload 5, 2) := by decide +kernel
theorem dX5_copy_80 : decode cX5_copy 80 = .ok (.ifCond .lt 30, 3) := by decide +kernel
theorem dX5_copy_83 : decode cX5_copy 83 = .ok (.iload 5, 2) := by decide +kernel
theorem dX5_copy_85 : decode cX5_copy 85 = .ok (.aload_n 0, 1) := by decide +kernel
theorem dX5_copy_86 : decode cX5_copy 86 = .ok (.getfield 31, 3) := by decide +kernel
theorem dX5_copy_89 : decode cX5_copy 89 = .ok (.iload_n 1, 1) := by decide +kernel
theorem dX5_copy_90 : decode cX5_copy 90 = .ok (.iaload, 1) := by decide +kernel
theorem dX5_copy_91 : decode cX5_copy 91 = .ok (.iload_n 2, 1) := by decide +kernel
theorem dX5_copy_92 : decode cX5_copy 92 = .ok (.isub, 1) := by decide +kernel
theorem dX5_copy_93 : decode cX5_copy 93 = .ok (.if_icmp .gt 17, 3) := by decide +kernel
theorem dX5_copy_96 : decode cX5_copy 96 = .ok (.iload 5, 2) := by decide +kernel
theorem dX5_copy_98 : decode cX5_copy 98 = .ok (.aload_n 0, 1) := by decide +kernel
theorem dX5_copy_99 : decode cX5_copy 99 = .ok (.getfield 31, 3) := by decide +kernel
theorem dX5_copy_102 : decode cX5_copy 102 = .ok (.iload_n 3, 1) := by decide +kernel
theorem dX5_copy_103 : decode cX5_copy 103 = .ok (.iaload, 1) := by decide +kernel
theorem dX5_copy_104 : decode cX5_copy 104 = .ok (.iload 4, 2) := by decide +kernel
theorem dX5_copy_106 : decode cX5_copy 106 = .ok (.isub, 1) := by decide +kernel
theorem dX5_copy_107 : decode cX5_copy 107 = .ok (.if_icmp .le 10, 3) := by decide +kernel
theorem dX5_copy_110 : decode cX5_copy 110 = .ok (.aload_n 0, 1) := by decide +kernel
theorem dX5_copy_111 : decode cX5_copy 111 = .ok (.ldc 41, 2) := by decide +kernel
theorem dX5_copy_113 : decode cX5_copy 113 = .ok (.invokevirtual 78, 3) := by decide +kernel
theorem dX5_copy_116 : decode cX5_copy 116 = .ok (.ireturn, 1) := by decide +kernel
theorem dX5_copy_117 : decode cX5_copy 117 = .ok (.iconst 0, 1) := by decide +kernel
theorem dX5_copy_118 : decode cX5_copy 118 = .ok (.istore 6, 2) := by decide +kernel
theorem dX5_copy_120 : decode cX5_copy 120 = .ok (.iload 6, 2) := by decide +kernel
theorem dX5_copy_122 : decode cX5_copy 122 = .ok (.iload 5, 2) := by decide +kernel
theorem dX5_copy_124 : decode cX5_copy 124 = .ok (.if_icmp .ge 30, 3) := by decide +kernel
theorem dX5_copy_127 : decode cX5_copy 127 = .ok (.aload_n 0, 1) := by decide +kernel
theorem dX5_copy_128 : decode cX5_copy 128 = .ok (.getfield 38, 3) := by decide +kernel
theorem dX5_copy_131 : decode cX5_copy 131 = .ok (.iload 6, 2) := by decide +kernel
theorem dX5_copy_133 : decode cX5_copy 133 = .ok (.aload_n 0, 1) := by decide +kernel
theorem dX5_copy_134 : decode cX5_copy 134 = .ok (.getfield 34, 3) := by decide +kernel
theorem dX5_copy_137 : decode cX5_copy 137 = .ok (.bipush 40, 2) := by decide +kernel
theorem dX5_copy_139 : decode cX5_copy 139 = .ok (.iload_n 1, 1) := by decide +kernel
theorem dX5_copy_140 : decode cX5_copy 140 = .ok (.imul, 1) := by decide +kernel
theorem dX5_copy_141 : decode cX5_copy 141 = .ok (.iload_n 2, 1) := by decide +kernel
theorem dX5_copy_142 : decode cX5_copy 142 = .ok (.iadd, 1) := by decide +kernel
theorem dX5_copy_143 : decode cX5_copy 143 = .ok (.iload 6, 2) := by decide +kernel
theorem dX5_copy_145 : decode cX5_copy 145 = .ok (.iadd, 1) := by decide +kernel
theorem dX5_copy_146 : decode cX5_copy 146 = .ok (.laload, 1) := by decide +kernel
theorem dX5_copy_147 : decode cX5_copy 147 = .ok (.lastore, 1) := by decide +kernel
theorem dX5_copy_148 : decode cX5_copy 148 = .ok (.iinc 6 1, 3) := by decide +kernel
theorem dX5_copy_151 : decode cX5_copy 151 = .ok (.goto (-31), 3) := by decide +kernel
theorem dX5_copy_154 : decode cX5_copy 154 = .ok (.iconst 0, 1) := by decide +kernel
theorem dX5_copy_155 : decode cX5_copy 155 = .ok (.istore 6, 2) := by decide +kernel
theorem dX5_copy_157 : decode cX5_copy 157 = .ok (.iload 6, 2) := by decide +kernel
theorem dX5_copy_159 : decode cX5_copy 159 = .ok (.iload 5, 2) := by decide +kernel
theorem dX5_copy_161 : decode cX5_copy 161 = .ok (.if_icmp .ge 31, 3) := by decide +kernel
theorem dX5_copy_164 : decode cX5_copy 164 = .ok (.aload_n 0, 1) := by decide +kernel
theorem dX5_copy_165 : decode cX5_copy 165 = .ok (.getfield 34, 3) := by decide +kernel
theorem dX5_copy_168 : decode cX5_copy 168 = .ok (.bipush 40, 2) := by decide +kernel
theorem dX5_copy_170 : decode cX5_copy 170 = .ok (.iload_n 3, 1) := by decide +kernel
theorem dX5_copy_171 : decode cX5_copy 171 = .ok (.imul, 1) := by decide +kernel
theorem dX5_copy_172 : decode cX5_copy 172 = .ok (.iload 4, 2) := by decide +kernel
theorem dX5_copy_174 : decode cX5_copy 174 = .ok (.iadd, 1) := by decide +kernel
theorem dX5_copy_175 : decode cX5_copy 175 = .ok (.iload 6, 2) := by decide +kernel
theorem dX5_copy_177 : decode cX5_copy 177 = .ok (.iadd, 1) := by decide +kernel
theorem dX5_copy_178 : decode cX5_copy 178 = .ok (.aload_n 0, 1) := by decide +kernel
theorem dX5_copy_179 : decode cX5_copy 179 = .ok (.getfield 38, 3) := by decide +kernel
theorem dX5_copy_182 : decode cX5_copy 182 = .ok (.iload 6, 2) := by decide +kernel
theorem dX5_copy_184 : decode cX5_copy 184 = .ok (.laload, 1) := by decide +kernel
theorem dX5_copy_185 : decode cX5_copy 185 = .ok (.lastore, 1) := by decide +kernel
theorem dX5_copy_186 : decode cX5_copy 186 = .ok (.iinc 6 1, 3) := by decide +kernel
theorem dX5_copy_189 : decode cX5_copy 189 = .ok (.goto (-32), 3) := by decide +kernel
theorem dX5_copy_192 : decode cX5_copy 192 = .ok (.iload 5, 2) := by decide +kernel
theorem dX5_copy_194 : decode cX5_copy 194 = .ok (.ireturn, 1) := by decide +kernel
theorem dX5_lays_0 : decode cX5_lays 0 = .ok (.aload_n 0, 1) := by decide +kernel
theorem dX5_lays_1 : decode cX5_lays 1 = .ok (.iload_n 1, 1) := by decide +kernel
theorem dX5_lays_2 : decode cX5_lays 2 = .ok (.invokevirtual 294, 3) := by decide +kernel
theorem dX5_lays_5 : decode cX5_lays 5 = .ok (.istore_n 2, 1) := by decide +kernel
theorem dX5_lays_6 : decode cX5_lays 6 = .ok (.iload_n 2, 1) := by decide +kernel
theorem dX5_lays_7 : decode cX5_lays 7 = .ok (.ifCond .eq 9, 3) := by decide +kernel
theorem dX5_lays_10 : decode cX5_lays 10 = .ok (.aload_n 0, 1) := by decide +kernel
theorem dX5_lays_11 : decode cX5_lays 11 = .ok (.iload_n 2, 1) := by decide +kernel
theorem dX5_lays_12 : decode cX5_lays 12 = .ok (.invokevirtual 78, 3) := by decide +kernel
theorem dX5_lays_15 : decode cX5_lays 15 = .ok (.ireturn, 1) := by decide +kernel
theorem dX5_lays_16 : decode cX5_lays 16 = .ok (.iconst 0, 1) := by decide +kernel
theorem dX5_lays_17 : decode cX5_lays 17 = .ok (.istore_n 3, 1) := by decide +kernel
theorem dX5_lays_18 : decode cX5_lays 18 = .ok (.iconst 0, 1) := by decide +kernel
theorem dX5_lays_19 : decode cX5_lays 19 = .ok (.istore 4, 2) := by decide +kernel
theorem dX5_lays_21 : decode cX5_lays 21 = .ok (.iload 4, 2) := by decide +kernel
theorem dX5_lays_23 : decode cX5_lays 23 = .ok (.aload_n 0, 1) := by decide +kernel
theorem dX5_lays_24 : decode cX5_lays 24 = .ok (.getfield 31, 3) := by decide +kernel
theorem dX5_lays_27 : decode cX5_lays 27 = .ok (.iload_n 1, 1) := by decide +kernel
theorem dX5_lays_28 : decode cX5_lays 28 = .ok (.iaload, 1) := by decide +kernel
theorem dX5_lays_29 : decode cX5_lays 29 = .ok (.if_icmp .ge 85, 3) := by decide +kernel
theorem dX5_lays_32 : decode cX5_lays 32 = .ok (.iload 4, 2) := by decide +kernel
theorem dX5_lays_34 : decode cX5_lays 34 = .ok (.bipush 12, 2) := by decide +kernel
theorem dX5_lays_36 : decode cX5_lays 36 = .ok (.if_icmp .ge 78, 3) := by decide +kernel
theorem dX5_lays_39 : decode cX5_lays 39 = .ok (.aload_n 0, 1) := by decide +kernel
theorem dX5_lays_40 : decode cX5_lays 40 = .ok (.getfield 34, 3) := by decide +kernel
theorem dX5_lays_43 : decode cX5_lays 43 = .ok (.bipush 40, 2) := by decide +kernel
theorem dX5_lays_45 : decode cX5_lays 45 = .ok (.iload_n 1, 1) := by decide +kernel
theorem dX5_lays_46 : decode cX5_lays 46 = .ok (.imul, 1) := by decide +kernel
theorem dX5_lays_47 : decode cX5_lays 47 = .ok (.iload 4, 2) := by decide +kernel
theorem dX5_lays_49 : decode cX5_lays 49 = .ok (.iadd, 1) := by decide +kernel
theorem dX5_lays_50 : decode cX5_lays 50 = .ok (.laload, 1) := by decide +kernel
theorem dX5_lays_51 : decode cX5_lays 51 = .ok (.invokestatic 71, 3) := by decide +kernel
theorem dX5_lays_54 : decode cX5_lays 54 = .ok (.istore 5, 2) := by decide +kernel
theorem dX5_lays_56 : decode cX5_lays 56 = .ok (.aload_n 0, 1) := by decide +kernel
theorem dX5_lays_57 : decode cX5_lays 57 = .ok (.getfield 7, 3) := by decide +kernel
theorem dX5_lays_60 : decode cX5_lays 60 = .ok (.iconst 2, 1) := by decide +kernel
theorem dX5_lays_61 : decode cX5_lays 61 = .ok (.iload 4, 2) := by decide +kernel
theorem dX5_lays_63 : decode cX5_lays 63 = .ok (.iadd, 1) := by decide +kernel
theorem dX5_lays_64 : decode cX5_lays 64 = .ok (.iload 5, 2) := by decide +kernel
theorem dX5_lays_66 : decode cX5_lays 66 = .ok (.ifCond .eq 19, 3) := by decide +kernel
theorem dX5_lays_69 : decode cX5_lays 69 = .ok (.aload_n 0, 1) := by decide +kernel
theorem dX5_lays_70 : decode cX5_lays 70 = .ok (.getfield 34, 3) := by decide +kernel
theorem dX5_lays_73 : decode cX5_lays 73 = .ok (.bipush 40, 2) := by decide +kernel
theorem dX5_lays_75 : decode cX5_lays 75 = .ok (.iload_n 1, 1) := by decide +kernel
theorem dX5_lays_76 : decode cX5_lays 76 = .ok (.imul, 1) := by decide +kernel
theorem dX5_lays_77 : decode cX5_lays 77 = .ok (.iload 4, 2) := by decide +kernel
theorem dX5_lays_79 : decode cX5_lays 79 = .ok (.iadd, 1) := by decide +kernel
theorem dX5_lays_80 : decode cX5_lays 80 = .ok (.laload, 1) := by decide +kernel
theorem dX5_lays_81 : decode cX5_lays 81 = .ok (.l2i, 1) := by decide +kernel
theorem dX5_lays_82 : decode cX5_lays 82 = .ok (.goto 12, 3) := by decide +kernel
theorem dX5_lays_85 : decode cX5_lays 85 = .ok (.aload_n 0, 1) := by decide +kernel
theorem dX5_lays_86 : decode cX5_lays 86 = .ok (.getfield 7, 3) := by decide +kernel
theorem dX5_lays_89 : decode cX5_lays 89 = .ok (.iconst 2, 1) := by decide +kernel
theorem dX5_lays_90 : decode cX5_lays 90 = .ok (.iload 4, 2) := by decide +kernel
theorem dX5_lays_92 : decode cX5_lays 92 = .ok (.iadd, 1) := by decide +kernel
theorem dX5_lays_93 : decode cX5_lays 93 = .ok (.iaload, 1) := by decide +kernel
theorem dX5_lays_94 : decode cX5_lays 94 = .ok (.iastore, 1) := by decide +kernel
theorem dX5_lays_95 : decode cX5_lays 95 = .ok (.iload_n 3, 1) := by decide +kernel
theorem dX5_lays_96 : decode cX5_lays 96 = .ok (.iload 5, 2) := by decide +kernel
theorem dX5_lays_98 : decode cX5_lays 98 = .ok (.ifCond .eq 7, 3) := by decide +kernel
theorem dX5_lays_101 : decode cX5_lays 101 = .ok (.iconst 1, 1) := by decide +kernel
theorem dX5_lays_102 : decode cX5_lays 102 = .ok (.goto 4, 3) := by decide +kernel
theorem dX5_lays_105 : decode cX5_lays 105 = .ok (.iconst 0, 1) := by decide +kernel
theorem dX5_lays_106 : decode cX5_lays 106 = .ok (.iadd, 1) := by decide +kernel
theorem dX5_lays_107 : decode cX5_lays 107 = .ok (.istore_n 3, 1) := by decide +kernel
theorem dX5_lays_108 : decode cX5_lays 108 = .ok (.iinc 4 1, 3) := by decide +kernel
theorem dX5_lays_111 : decode cX5_lays 111 = .ok (.goto (-90), 3) := by decide +kernel
theorem dX5_lays_114 : decode cX5_lays 114 = .ok (.iload_n 3, 1) := by decide +kernel
theorem dX5_lays_115 : decode cX5_lays 115 = .ok (.ireturn, 1) := by decide +kernel
theorem dX5_book_0 : decode cX5_book 0 = .ok (.aload_n 0, 1) := by decide +kernel
theorem dX5_book_1 : decode cX5_book 1 = .ok (.iload_n 1, 1) := by decide +kernel
theorem dX5_book_2 : decode cX5_book 2 = .ok (.invokevirtual 294, 3) := by decide +kernel
theorem dX5_book_5 : decode cX5_book 5 = .ok (.istore_n 3, 1) := by decide +kernel
theorem dX5_book_6 : decode cX5_book 6 = .ok (.iload_n 3, 1) := by decide +kernel
theorem dX5_book_7 : decode cX5_book 7 = .ok (.ifCond .eq 9, 3) := by decide +kernel
theorem dX5_book_10 : decode cX5_book 10 = .ok (.aload_n 0, 1) := by decide +kernel
theorem dX5_book_11 : decode cX5_book 11 = .ok (.iload_n 3, 1) := by decide +kernel
theorem dX5_book_12 : decode cX5_book 12 = .ok (.invokevirtual 78, 3) := by decide +kernel
theorem dX5_book_15 : decode cX5_book 15 = .ok (.ireturn, 1) := by decide +kernel
theorem dX5_book_16 : decode cX5_book 16 = .ok (.aload_n 0, 1) := by decide +kernel
theorem dX5_book_17 : decode cX5_book 17 = .ok (.iload_n 2, 1) := by decide +kernel
theorem dX5_book_18 : decode cX5_book 18 = .ok (.invokevirtual 100, 3) := by decide +kernel
theorem dX5_book_21 : decode cX5_book 21 = .ok (.ifCond .ne 10, 3) := by decide +kernel
theorem dX5_book_24 : decode cX5_book 24 = .ok (.aload_n 0, 1) := by decide +kernel
theorem dX5_book_25 : decode cX5_book 25 = .ok (.ldc 41, 2) := by decide +kernel
theorem dX5_book_27 : decode cX5_book 27 = .ok (.invokevirtual 78, 3) := by decide +kernel
theorem dX5_book_30 : decode cX5_book 30 = .ok (.ireturn, 1) := by decide +kernel
theorem dX5_book_31 : decode cX5_book 31 = .ok (.aload_n 0, 1) := by decide +kernel
theorem dX5_book_32 : decode cX5_book 32 = .ok (.invokevirtual 161, 3) := by decide +kernel
theorem dX5_book_35 : decode cX5_book 35 = .ok (.iconst 0, 1) := by decide +kernel
theorem dX5_book_36 : decode cX5_book 36 = .ok (.istore 4, 2) := by decide +kernel
theorem dX5_book_38 : decode cX5_book 38 = .ok (.iload 4, 2) := by decide +kernel
theorem dX5_book_40 : decode cX5_book 40 = .ok (.aload_n 0, 1) := by decide +kernel
theorem dX5_book_41 : decode cX5_book 41 = .ok (.getfield 31, 3) := by decide +kernel
theorem dX5_book_44 : decode cX5_book 44 = .ok (.iload_n 1, 1) := by decide +kernel
theorem dX5_book_45 : decode cX5_book 45 = .ok (.iaload, 1) := by decide +kernel
theorem dX5_book_46 : decode cX5_book 46 = .ok (.if_icmp .ge 40, 3) := by decide +kernel
theorem dX5_book_49 : decode cX5_book 49 = .ok (.aload_n 0, 1) := by decide +kernel
theorem dX5_book_50 : decode cX5_book 50 = .ok (.getfield 34, 3) := by decide +kernel
theorem dX5_book_53 : decode cX5_book 53 = .ok (.bipush 40, 2) := by decide +kernel
theorem dX5_book_55 : decode cX5_book 55 = .ok (.iload_n 1, 1) := by decide +kernel
theorem dX5_book_56 : decode cX5_book 56 = .ok (.imul, 1) := by decide +kernel
theorem dX5_book_57 : decode cX5_book 57 = .ok (.iload 4, 2) := by decide +kernel
theorem dX5_book_59 : decode cX5_book 59 = .ok (.iadd, 1) := by decide +kernel
theorem dX5_book_60 : decode cX5_book 60 = .ok (.aload_n 0, 1) := by decide +kernel
theorem dX5_book_61 : decode cX5_book 61 = .ok (.getfield 28, 3) := by decide +kernel
theorem dX5_book_64 : decode cX5_book 64 = .ok (.iload_n 1, 1) := by decide +kernel
theorem dX5_book_65 : decode cX5_book 65 = .ok (.iaload, 1) := by decide +kernel
theorem dX5_book_66 : decode cX5_book 66 = .ok (.aload_n 0, 1) := by decide +kernel
theorem dX5_book_67 : decode cX5_book 67 = .ok (.iload_n 2, 1) := by decide +kernel
theorem dX5_book_68 : decode cX5_book 68 = .ok (.invokevirtual 64, 3) := by decide +kernel
theorem dX5_book_71 : decode cX5_book 71 = .ok (.i2l, 1) := by decide +kernel
theorem dX5_book_72 : decode cX5_book 72 = .ok (.invokestatic 297, 3) := by decide +kernel
theorem dX5_book_75 : decode cX5_book 75 = .ok (.lastore, 1) := by decide +kernel
theorem dX5_book_76 : decode cX5_book 76 = .ok (.aload_n 0, 1) := by decide +kernel
theorem dX5_book_77 : decode cX5_book 77 = .ok (.invokevirtual 151, 3) := by decide +kernel
theorem dX5_book_80 : decode cX5_book 80 = .ok (.iinc 4 1, 3) := by decide +kernel
theorem dX5_book_83 : decode cX5_book 83 = .ok (.goto (-45), 3) := by decide +kernel
theorem dX5_book_86 : decode cX5_book 86 = .ok (.aload_n 0, 1) := by decide +kernel
theorem dX5_book_87 : decode cX5_book 87 = .ok (.aload_n 0, 1) := by decide +kernel
theorem dX5_book_88 : decode cX5_book 88 = .ok (.getfield 31, 3) := by decide +kernel
theorem dX5_book_91 : decode cX5_book 91 = .ok (.iload_n 1, 1) := by decide +kernel
theorem dX5_book_92 : decode cX5_book 92 = .ok (.iaload, 1) := by decide +kernel
theorem dX5_book_93 : decode cX5_book 93 = .ok (.invokevirtual 164, 3) := by decide +kernel
theorem dX5_book_96 : decode cX5_book 96 = .ok (.ireturn, 1) := by decide +kernel
theorem dX5_isBook_0 : decode cX5_isBook 0 = .ok (.iconst 0, 1) := by decide +kernel
theorem dX5_isBook_1 : decode cX5_isBook 1 = .ok (.istore_n 3, 1) := by decide +kernel
theorem dX5_isBook_2 : decode cX5_isBook 2 = .ok (.iload_n 3, 1) := by decide +kernel
theorem dX5_isBook_3 : decode cX5_isBook 3 = .ok (.aload_n 0, 1) := by decide +kernel
theorem dX5_isBook_4 : decode cX5_isBook 4 = .ok (.getfield 31, 3) := by decide +kernel
theorem dX5_isBook_7 : decode cX5_isBook 7 = .ok (.iload_n 1, 1) := by decide +kernel
theorem dX5_isBook_8 : decode cX5_isBook 8 = .ok (.iaload, 1) := by decide +kernel
theorem dX5_isBook_9 : decode cX5_isBook 9 = .ok (.if_icmp .ge 36, 3) := by decide +kernel
theorem dX5_isBook_12 : decode cX5_isBook 12 = .ok (.aload_n 0, 1) := by decide +kernel
theorem dX5_isBook_13 : decode cX5_isBook 13 = .ok (.getfield 34, 3) := by decide +kernel
theorem dX5_isBook_16 : decode cX5_isBook 16 = .ok (.bipush 40, 2) := by decide +kernel
theorem dX5_isBook_18 : decode cX5_isBook 18 = .ok (.iload_n 1, 1) := by decide +kernel
theorem dX5_isBook_19 : decode cX5_isBook 19 = .ok (.imul, 1) := by decide +kernel
theorem dX5_isBook_20 : decode cX5_isBook 20 = .ok (.iload_n 3, 1) := by decide +kernel
theorem dX5_isBook_21 : decode cX5_isBook 21 = .ok (.iadd, 1) := by decide +kernel
theorem dX5_isBook_22 : decode cX5_isBook 22 = .ok (.laload, 1) := by decide +kernel
theorem dX5_isBook_23 : decode cX5_isBook 23 = .ok (.aload_n 0, 1) := by decide +kernel
theorem dX5_isBook_24 : decode cX5_isBook 24 = .ok (.iload_n 2, 1) := by decide +kernel
theorem dX5_isBook_25 : decode cX5_isBook 25 = .ok (.invokevirtual 64, 3) := by decide +kernel
theorem dX5_isBook_28 : decode cX5_isBook 28 = .ok (.i2l, 1) := by decide +kernel
theorem dX5_isBook_29 : decode cX5_isBook 29 = .ok (.lcmp, 1) := by decide +kernel
theorem dX5_isBook_30 : decode cX5_isBook 30 = .ok (.ifCond .eq 5, 3) := by decide +kernel
theorem dX5_isBook_33 : decode cX5_isBook 33 = .ok (.iconst 0, 1) := by decide +kernel
theorem dX5_isBook_34 : decode cX5_isBook 34 = .ok (.ireturn, 1) := by decide +kernel
theorem dX5_isBook_35 : decode cX5_isBook 35 = .ok (.aload_n 0, 1) := by decide +kernel
theorem dX5_isBook_36 : decode cX5_isBook 36 = .ok (.invokevirtual 151, 3) := by decide +kernel
theorem dX5_isBook_39 : decode cX5_isBook 39 = .ok (.iinc 3 1, 3) := by decide +kernel
theorem dX5_isBook_42 : decode cX5_isBook 42 = .ok (.goto (-40), 3) := by decide +kernel
theorem dX5_isBook_45 : decode cX5_isBook 45 = .ok (.iconst 1, 1) := by decide +kernel
theorem dX5_isBook_46 : decode cX5_isBook 46 = .ok (.ireturn, 1) := by decide +kernel
theorem dX5_read_0 : decode cX5_read 0 = .ok (.aload_n 0, 1) := by decide +kernel
theorem dX5_read_1 : decode cX5_read 1 = .ok (.iload_n 1, 1) := by decide +kernel
theorem dX5_read_2 : decode cX5_read 2 = .ok (.invokevirtual 294, 3) := by decide +kernel
theorem dX5_read_5 : decode cX5_read 5 = .ok (.istore_n 3, 1) := by decide +kernel
theorem dX5_read_6 : decode cX5_read 6 = .ok (.iload_n 3, 1) := by decide +kernel
theorem dX5_read_7 : decode cX5_read 7 = .ok (.ifCond .eq 9, 3) := by decide +kernel
theorem dX5_read_10 : decode cX5_read 10 = .ok (.aload_n 0, 1) := by decide +kernel
theorem dX5_read_11 : decode cX5_read 11 = .ok (.iload_n 3, 1) := by decide +kernel
theorem dX5_read_12 : decode cX5_read 12 = .ok (.invokevirtual 78, 3) := by decide +kernel
theorem dX5_read_15 : decode cX5_read 15 = .ok (.ireturn, 1) := by decide +kernel
theorem dX5_read_16 : decode cX5_read 16 = .ok (.aload_n 0, 1) := by decide +kernel
theorem dX5_read_17 : decode cX5_read 17 = .ok (.iload_n 2, 1) := by decide +kernel
theorem dX5_read_18 : decode cX5_read 18 = .ok (.invokevirtual 100, 3) := by decide +kernel
theorem dX5_read_21 : decode cX5_read 21 = .ok (.ifCond .ne 10, 3) := by decide +kernel
theorem dX5_read_24 : decode cX5_read 24 = .ok (.aload_n 0, 1) := by decide +kernel
theorem dX5_read_25 : decode cX5_read 25 = .ok (.ldc 41, 2) := by decide +kernel
theorem dX5_read_27 : decode cX5_read 27 = .ok (.invokevirtual 78, 3) := by decide +kernel
theorem dX5_read_30 : decode cX5_read 30 = .ok (.ireturn, 1) := by decide +kernel
theorem dX5_read_31 : decode cX5_read 31 = .ok (.aload_n 0, 1) := by decide +kernel
theorem dX5_read_32 : decode cX5_read 32 = .ok (.invokevirtual 161, 3) := by decide +kernel
theorem dX5_read_35 : decode cX5_read 35 = .ok (.iconst 0, 1) := by decide +kernel
theorem dX5_read_36 : decode cX5_read 36 = .ok (.istore 4, 2) := by decide +kernel
theorem dX5_read_38 : decode cX5_read 38 = .ok (.iconst 0, 1) := by decide +kernel
theorem dX5_read_39 : decode cX5_read 39 = .ok (.istore 5, 2) := by decide +kernel
theorem dX5_read_41 : decode cX5_read 41 = .ok (.iload 5, 2) := by decide +kernel
theorem dX5_read_43 : decode cX5_read 43 = .ok (.sipush 600, 3) := by decide +kernel
theorem dX5_read_46 : decode cX5_read 46 = .ok (.if_icmp .ge 62, 3) := by decide +kernel
theorem dX5_read_49 : decode cX5_read 49 = .ok (.aload_n 0, 1) := by decide +kernel
theorem dX5_read_50 : decode cX5_read 50 = .ok (.getfield 7, 3) := by decide +kernel
theorem dX5_read_53 : decode cX5_read 53 = .ok (.iload_n 2, 1) := by decide +kernel
theorem dX5_read_54 : decode cX5_read 54 = .ok (.iconst 0, 1) := by decide +kernel
theorem dX5_read_55 : decode cX5_read 55 = .ok (.invokestatic 42, 3) := by decide +kernel
theorem dX5_read_58 : decode cX5_read 58 = .ok (.iload 5, 2) := by decide +kernel
theorem dX5_read_60 : decode cX5_read 60 = .ok (.bipush 100, 2) := by decide +kernel
theorem dX5_read_62 : decode cX5_read 62 = .ok (.idiv, 1) := by decide +kernel
theorem dX5_read_63 : decode cX5_read 63 = .ok (.iastore, 1) := by decide +kernel
theorem dX5_read_64 : decode cX5_read 64 = .ok (.aload_n 0, 1) := by decide +kernel
theorem dX5_read_65 : decode cX5_read 65 = .ok (.getfield 7, 3) := by decide +kernel
theorem dX5_read_68 : decode cX5_read 68 = .ok (.iload_n 2, 1) := by decide +kernel
theorem dX5_read_69 : decode cX5_read 69 = .ok (.iconst 1, 1) := by decide +kernel
theorem dX5_read_70 : decode cX5_read 70 = .ok (.invokestatic 42, 3) := by decide +kernel
theorem dX5_read_73 : decode cX5_read 73 = .ok (.iload 5, 2) := by decide +kernel
theorem dX5_read_75 : decode cX5_read 75 = .ok (.bipush 100, 2) := by decide +kernel
theorem dX5_read_77 : decode cX5_read 77 = .ok (.irem, 1) := by decide +kernel
theorem dX5_read_78 : decode cX5_read 78 = .ok (.iastore, 1) := by decide +kernel
theorem dX5_read_79 : decode cX5_read 79 = .ok (.aload_n 0, 1) := by decide +kernel
theorem dX5_read_80 : decode cX5_read 80 = .ok (.iload 4, 2) := by decide +kernel
theorem dX5_read_82 : decode cX5_read 82 = .ok (.aload_n 0, 1) := by decide +kernel
theorem dX5_read_83 : decode cX5_read 83 = .ok (.iload_n 1, 1) := by decide +kernel
theorem dX5_read_84 : decode cX5_read 84 = .ok (.iload_n 2, 1) := by decide +kernel
theorem dX5_read_85 : decode cX5_read 85 = .ok (.invokevirtual 301, 3) := by decide +kernel
theorem dX5_read_88 : decode cX5_read 88 = .ok (.ifCond .eq 7, 3) := by decide +kernel
theorem dX5_read_91 : decode cX5_read 91 = .ok (.iconst 1, 1) := by decide +kernel
theorem dX5_read_92 : decode cX5_read 92 = .ok (.goto 4, 3) := by decide +kernel
theorem dX5_read_95 : decode cX5_read 95 = .ok (.iconst 0, 1) := by decide +kernel
theorem dX5_read_96 : decode cX5_read 96 = .ok (.iadd, 1) := by decide +kernel
theorem dX5_read_97 : decode cX5_read 97 = .ok (.invokevirtual 164, 3) := by decide +kernel
theorem dX5_read_100 : decode cX5_read 100 = .ok (.istore 4, 2) := by decide +kernel
theorem dX5_read_102 : decode cX5_read 102 = .ok (.iinc 5 1, 3) := by decide +kernel
theorem dX5_read_105 : decode cX5_read 105 = .ok (.goto (-64), 3) := by decide +kernel
theorem dX5_read_108 : decode cX5_read 108 = .ok (.iload 4, 2) := by decide +kernel
theorem dX5_read_110 : decode cX5_read 110 = .ok (.ireturn, 1) := by decide +kernel
theorem dX5_image_0 : decode cX5_image 0 = .ok (.iconst 0, 1) := by decide +kernel
theorem dX5_image_1 : decode cX5_image 1 = .ok (.istore_n 1, 1) := by decide +kernel
theorem dX5_image_2 : decode cX5_image 2 = .ok (.iload_n 1, 1) := by decide +kernel
theorem dX5_image_3 : decode cX5_image 3 = .ok (.sipush 198, 3) := by decide +kernel
theorem dX5_image_6 : decode cX5_image 6 = .ok (.if_icmp .ge 21, 3) := by decide +kernel
theorem dX5_image_9 : decode cX5_image 9 = .ok (.aload_n 0, 1) := by decide +kernel
theorem dX5_image_10 : decode cX5_image 10 = .ok (.getfield 13, 3) := by decide +kernel
theorem dX5_image_13 : decode cX5_image 13 = .ok (.iload_n 1, 1) := by decide +kernel
theorem dX5_image_14 : decode cX5_image 14 = .ok (.aload_n 0, 1) := by decide +kernel
theorem dX5_image_15 : decode cX5_image 15 = .ok (.getfield 7, 3) := by decide +kernel
theorem dX5_image_18 : decode cX5_image 18 = .ok (.iload_n 1, 1) := by decide +kernel
theorem dX5_image_19 : decode cX5_image 19 = .ok (.iaload, 1) := by decide +kernel
theorem dX5_image_20 : decode cX5_image 20 = .ok (.iastore, 1) := by decide +kernel
theorem dX5_image_21 : decode cX5_image 21 = .ok (.iinc 1 1, 3) := by decide +kernel
theorem dX5_image_24 : decode cX5_image 24 = .ok (.goto (-22), 3) := by decide +kernel
theorem dX5_image_27 : decode cX5_image 27 = .ok (.aload_n 0, 1) := by decide +kernel
theorem dX5_image_28 : decode cX5_image 28 = .ok (.iconst 1, 1) := by decide +kernel
theorem dX5_image_29 : decode cX5_image 29 = .ok (.putfield 304, 3) := by decide +kernel
theorem dX5_image_32 : decode cX5_image 32 = .ok (.iconst 1, 1) := by decide +kernel
theorem dX5_image_33 : decode cX5_image 33 = .ok (.ireturn, 1) := by decide +kernel
theorem dX5_undo_0 : decode cX5_undo 0 = .ok (.aload_n 0, 1) := by decide +kernel
theorem dX5_undo_1 : decode cX5_undo 1 = .ok (.getfield 304, 3) := by decide +kernel
theorem dX5_undo_4 : decode cX5_undo 4 = .ok (.ifCond .ne 10, 3) := by decide +kernel
theorem dX5_undo_7 : decode cX5_undo 7 = .ok (.aload_n 0, 1) := by decide +kernel
theorem dX5_undo_8 : decode cX5_undo 8 = .ok (.ldc 176, 2) := by decide +kernel
theorem dX5_undo_10 : decode cX5_undo 10 = .ok (.invokevirtual 78, 3) := by decide +kernel
theorem dX5_undo_13 : decode cX5_undo 13 = .ok (.ireturn, 1) := by decide +kernel
theorem dX5_undo_14 : decode cX5_undo 14 = .ok (.iconst 0, 1) := by decide +kernel
theorem dX5_undo_15 : decode cX5_undo 15 = .ok (.istore_n 1, 1) := by decide +kernel
theorem dX5_undo_16 : decode cX5_undo 16 = .ok (.iload_n 1, 1) := by decide +kernel
theorem dX5_undo_17 : decode cX5_undo 17 = .ok (.sipush 198, 3) := by decide +kernel
theorem dX5_undo_20 : decode cX5_undo 20 = .ok (.if_icmp .ge 21, 3) := by decide +kernel
theorem dX5_undo_23 : decode cX5_undo 23 = .ok (.aload_n 0, 1) := by decide +kernel
theorem dX5_undo_24 : decode cX5_undo 24 = .ok (.getfield 7, 3) := by decide +kernel
theorem dX5_undo_27 : decode cX5_undo 27 = .ok (.iload_n 1, 1) := by decide +kernel
theorem dX5_undo_28 : decode cX5_undo 28 = .ok (.aload_n 0, 1) := by decide +kernel
theorem dX5_undo_29 : decode cX5_undo 29 = .ok (.getfield 13, 3) := by decide +kernel
theorem dX5_undo_32 : decode cX5_undo 32 = .ok (.iload_n 1, 1) := by decide +kernel
theorem dX5_undo_33 : decode cX5_undo 33 = .ok (.iaload, 1) := by decide +kernel
theorem dX5_undo_34 : decode cX5_undo 34 = .ok (.iastore, 1) := by decide +kernel
theorem dX5_undo_35 : decode cX5_undo 35 = .ok (.iinc 1 1, 3) := by decide +kernel
theorem dX5_undo_38 : decode cX5_undo 38 = .ok (.goto (-22), 3) := by decide +kernel
theorem dX5_undo_41 : decode cX5_undo 41 = .ok (.aload_n 0, 1) := by decide +kernel
theorem dX5_undo_42 : decode cX5_undo 42 = .ok (.getfield 7, 3) := by decide +kernel
theorem dX5_undo_45 : decode cX5_undo 45 = .ok (.iconst 1, 1) := by decide +kernel
theorem dX5_undo_46 : decode cX5_undo 46 = .ok (.iaload, 1) := by decide +kernel
theorem dX5_undo_47 : decode cX5_undo 47 = .ok (.ireturn, 1) := by decide +kernel
theorem dX5_tear_0 : decode cX5_tear 0 = .ok (.aload_n 0, 1) := by decide +kernel
theorem dX5_tear_1 : decode cX5_tear 1 = .ok (.getfield 304, 3) := by decide +kernel
theorem dX5_tear_4 : decode cX5_tear 4 = .ok (.ifCond .eq 7, 3) := by decide +kernel
theorem dX5_tear_7 : decode cX5_tear 7 = .ok (.iconst 1, 1) := by decide +kernel
theorem dX5_tear_8 : decode cX5_tear 8 = .ok (.goto 4, 3) := by decide +kernel
theorem dX5_tear_11 : decode cX5_tear 11 = .ok (.iconst 0, 1) := by decide +kernel
theorem dX5_tear_12 : decode cX5_tear 12 = .ok (.istore_n 1, 1) := by decide +kernel
theorem dX5_tear_13 : decode cX5_tear 13 = .ok (.aload_n 0, 1) := by decide +kernel
theorem dX5_tear_14 : decode cX5_tear 14 = .ok (.iconst 0, 1) := by decide +kernel
theorem dX5_tear_15 : decode cX5_tear 15 = .ok (.putfield 304, 3) := by decide +kernel
theorem dX5_tear_18 : decode cX5_tear 18 = .ok (.iload_n 1, 1) := by decide +kernel
theorem dX5_tear_19 : decode cX5_tear 19 = .ok (.ireturn, 1) := by decide +kernel
theorem dX5_coatsMade_0 : decode cX5_coatsMade 0 = .ok (.iconst 0, 1) := by decide +kernel
theorem dX5_coatsMade_1 : decode cX5_coatsMade 1 = .ok (.istore_n 1, 1) := by decide +kernel
theorem dX5_coatsMade_2 : decode cX5_coatsMade 2 = .ok (.iconst 0, 1) := by decide +kernel
theorem dX5_coatsMade_3 : decode cX5_coatsMade 3 = .ok (.istore_n 2, 1) := by decide +kernel
theorem dX5_coatsMade_4 : decode cX5_coatsMade 4 = .ok (.iload_n 2, 1) := by decide +kernel
theorem dX5_coatsMade_5 : decode cX5_coatsMade 5 = .ok (.iconst 4, 1) := by decide +kernel
theorem dX5_coatsMade_6 : decode cX5_coatsMade 6 = .ok (.if_icmp .ge 25, 3) := by decide +kernel
theorem dX5_coatsMade_9 : decode cX5_coatsMade 9 = .ok (.iload_n 1, 1) := by decide +kernel
theorem dX5_coatsMade_10 : decode cX5_coatsMade 10 = .ok (.aload_n 0, 1) := by decide +kernel
theorem dX5_coatsMade_11 : decode cX5_coatsMade 11 = .ok (.iload_n 2, 1) := by decide +kernel
theorem dX5_coatsMade_12 : decode cX5_coatsMade 12 = .ok (.invokevirtual 141, 3) := by decide +kernel
theorem dX5_coatsMade_15 : decode cX5_coatsMade 15 = .ok (.ifCond .ne 7, 3) := by decide +kernel
theorem dX5_coatsMade_18 : decode cX5_coatsMade 18 = .ok (.iconst 0, 1) := by decide +kernel
theorem dX5_coatsMade_19 : decode cX5_coatsMade 19 = .ok (.goto 4, 3) := by decide +kernel
theorem dX5_coatsMade_22 : decode cX5_coatsMade 22 = .ok (.iconst 1, 1) := by decide +kernel
theorem dX5_coatsMade_23 : decode cX5_coatsMade 23 = .ok (.iadd, 1) := by decide +kernel
theorem dX5_coatsMade_24 : decode cX5_coatsMade 24 = .ok (.istore_n 1, 1) := by decide +kernel
theorem dX5_coatsMade_25 : decode cX5_coatsMade 25 = .ok (.iinc 2 1, 3) := by decide +kernel
theorem dX5_coatsMade_28 : decode cX5_coatsMade 28 = .ok (.goto (-24), 3) := by decide +kernel
theorem dX5_coatsMade_31 : decode cX5_coatsMade 31 = .ok (.iload_n 1, 1) := by decide +kernel
theorem dX5_coatsMade_32 : decode cX5_coatsMade 32 = .ok (.ireturn, 1) := by decide +kernel
theorem dX5_frights_0 : decode cX5_frights 0 = .ok (.iconst 0, 1) := by decide +kernel
theorem dX5_frights_1 : decode cX5_frights 1 = .ok (.istore_n 1, 1) := by decide +kernel
theorem dX5_frights_2 : decode cX5_frights 2 = .ok (.iconst 0, 1) := by decide +kernel
theorem dX5_frights_3 : decode cX5_frights 3 = .ok (.istore_n 2, 1) := by decide +kernel
theorem dX5_frights_4 : decode cX5_frights 4 = .ok (.iload_n 2, 1) := by decide +kernel
theorem dX5_frights_5 : decode cX5_frights 5 = .ok (.aload_n 0, 1) := by decide +kernel
theorem dX5_frights_6 : decode cX5_frights 6 = .ok (.getfield 7, 3) := by decide +kernel
theorem dX5_frights_9 : decode cX5_frights 9 = .ok (.iconst 1, 1) := by decide +kernel
theorem dX5_frights_10 : decode cX5_frights 10 = .ok (.iaload, 1) := by decide +kernel
theorem dX5_frights_11 : decode cX5_frights 11 = .ok (.if_icmp .ge 18, 3) := by decide +kernel
theorem dX5_frights_14 : decode cX5_frights 14 = .ok (.iload_n 1, 1) := by decide +kernel
theorem dX5_frights_15 : decode cX5_frights 15 = .ok (.aload_n 0, 1) := by decide +kernel
theorem dX5_frights_16 : decode cX5_frights 16 = .ok (.iload_n 2, 1) := by decide +kernel
theorem dX5_frights_17 : decode cX5_frights 17 = .ok (.iconst 1, 1) := by decide +kernel
theorem dX5_frights_18 : decode cX5_frights 18 = .ok (.invokevirtual 90, 3) := by decide +kernel
theorem dX5_frights_21 : decode cX5_frights 21 = .ok (.iadd, 1) := by decide +kernel
theorem dX5_frights_22 : decode cX5_frights 22 = .ok (.istore_n 1, 1) := by decide +kernel
theorem dX5_frights_23 : decode cX5_frights 23 = .ok (.iinc 2 1, 3) := by decide +kernel
theorem dX5_frights_26 : decode cX5_frights 26 = .ok (.goto (-22), 3) := by decide +kernel
theorem dX5_frights_29 : decode cX5_frights 29 = .ok (.iload_n 1, 1) := by decide +kernel
theorem dX5_frights_30 : decode cX5_frights 30 = .ok (.ireturn, 1) := by decide +kernel
theorem dX5_count_0 : decode cX5_count 0 = .ok (.iload_n 1, 1) := by decide +kernel
theorem dX5_count_1 : decode cX5_count 1 = .ok (.tableswitch 53 0 3 #[31, 38, 43, 48], 31) := by decide +kernel
theorem dX5_count_32 : decode cX5_count 32 = .ok (.aload_n 0, 1) := by decide +kernel
theorem dX5_count_33 : decode cX5_count 33 = .ok (.getfield 7, 3) := by decide +kernel
theorem dX5_count_36 : decode cX5_count 36 = .ok (.iconst 1, 1) := by decide +kernel
theorem dX5_count_37 : decode cX5_count 37 = .ok (.iaload, 1) := by decide +kernel
theorem dX5_count_38 : decode cX5_count 38 = .ok (.ireturn, 1) := by decide +kernel
theorem dX5_count_39 : decode cX5_count 39 = .ok (.aload_n 0, 1) := by decide +kernel
theorem dX5_count_40 : decode cX5_count 40 = .ok (.getfield 190, 3) := by decide +kernel
theorem dX5_count_43 : decode cX5_count 43 = .ok (.ireturn, 1) := by decide +kernel
theorem dX5_count_44 : decode cX5_count 44 = .ok (.aload_n 0, 1) := by decide +kernel
theorem dX5_count_45 : decode cX5_count 45 = .ok (.invokevirtual 307, 3) := by decide +kernel
theorem dX5_count_48 : decode cX5_count 48 = .ok (.ireturn, 1) := by decide +kernel
theorem dX5_count_49 : decode cX5_count 49 = .ok (.aload_n 0, 1) := by decide +kernel
theorem dX5_count_50 : decode cX5_count 50 = .ok (.invokevirtual 310, 3) := by decide +kernel
theorem dX5_count_53 : decode cX5_count 53 = .ok (.ireturn, 1) := by decide +kernel
theorem dX5_count_54 : decode cX5_count 54 = .ok (.aload_n 0, 1) := by decide +kernel
theorem dX5_count_55 : decode cX5_count 55 = .ok (.ldc 41, 2) := by decide +kernel
theorem dX5_count_57 : decode cX5_count 57 = .ok (.invokevirtual 78, 3) := by decide +kernel
theorem dX5_count_60 : decode cX5_count 60 = .ok (.ireturn, 1) := by decide +kernel
theorem dX5_status_0 : decode cX5_status 0 = .ok (.iload_n 1, 1) := by decide +kernel
theorem dX5_status_1 : decode cX5_status 1 = .ok (.i2l, 1) := by decide +kernel
theorem dX5_status_2 : decode cX5_status 2 = .ok (.ldc2_w 313, 3) := by decide +kernel
theorem dX5_status_5 : decode cX5_status 5 = .ok (.ldc2_w 315, 3) := by decide +kernel
theorem dX5_status_8 : decode cX5_status 8 = .ok (.invokestatic 46, 3) := by decide +kernel
theorem dX5_status_11 : decode cX5_status 11 = .ok (.ifCond .ne 10, 3) := by decide +kernel
theorem dX5_status_14 : decode cX5_status 14 = .ok (.aload_n 0, 1) := by decide +kernel
theorem dX5_status_15 : decode cX5_status 15 = .ok (.ldc 41, 2) := by decide +kernel
theorem dX5_status_17 : decode cX5_status 17 = .ok (.invokevirtual 78, 3) := by decide +kernel
theorem dX5_status_20 : decode cX5_status 20 = .ok (.ireturn, 1) := by decide +kernel
theorem dX5_status_21 : decode cX5_status 21 = .ok (.iconst 0, 1) := by decide +kernel
theorem dX5_status_22 : decode cX5_status 22 = .ok (.istore_n 2, 1) := by decide +kernel
theorem dX5_status_23 : decode cX5_status 23 = .ok (.iconst 0, 1) := by decide +kernel
theorem dX5_status_24 : decode cX5_status 24 = .ok (.istore_n 3, 1) := by decide +kernel
theorem dX5_status_25 : decode cX5_status 25 = .ok (.iload_n 3, 1) := by decide +kernel
theorem dX5_status_26 : decode cX5_status 26 = .ok (.bipush 7, 2) := by decide +kernel
theorem dX5_status_28 : decode cX5_status 28 = .ok (.if_icmp .ge 31, 3) := by decide +kernel
theorem dX5_status_31 : decode cX5_status 31 = .ok (.iload_n 2, 1) := by decide +kernel
theorem dX5_status_32 : decode cX5_status 32 = .ok (.iload_n 1, 1) := by decide +kernel
theorem dX5_status_33 : decode cX5_status 33 = .ok (.ifCond .lt 8, 3) := by decide +kernel
theorem dX5_status_36 : decode cX5_status 36 = .ok (.iload_n 3, 1) := by decide +kernel
theorem dX5_status_37 : decode cX5_status 37 = .ok (.iload_n 1, 1) := by decide +kernel
theorem dX5_status_38 : decode cX5_status 38 = .ok (.if_icmp .ne 12, 3) := by decide +kernel
theorem dX5_status_41 : decode cX5_status 41 = .ok (.aload_n 0, 1) := by decide +kernel
theorem dX5_status_42 : decode cX5_status 42 = .ok (.getfield 22, 3) := by decide +kernel
theorem dX5_status_45 : decode cX5_status 45 = .ok (.iload_n 3, 1) := by decide +kernel
theorem dX5_status_46 : decode cX5_status 46 = .ok (.iaload, 1) := by decide +kernel
theorem dX5_status_47 : decode cX5_status 47 = .ok (.goto 4, 3) := by decide +kernel
theorem dX5_status_50 : decode cX5_status 50 = .ok (.iconst 0, 1) := by decide +kernel
theorem dX5_status_51 : decode cX5_status 51 = .ok (.iadd, 1) := by decide +kernel
theorem dX5_status_52 : decode cX5_status 52 = .ok (.istore_n 2, 1) := by decide +kernel
theorem dX5_status_53 : decode cX5_status 53 = .ok (.iinc 3 1, 3) := by decide +kernel
theorem dX5_status_56 : decode cX5_status 56 = .ok (.goto (-31), 3) := by decide +kernel
theorem dX5_status_59 : decode cX5_status 59 = .ok (.iload_n 2, 1) := by decide +kernel
theorem dX5_status_60 : decode cX5_status 60 = .ok (.ireturn, 1) := by decide +kernel
end
section
theorem dL_law_0 : decode cL_law 0 = .ok (.new 7, 3) := by decide +kernel
theorem dL_law_3 : decode cL_law 3 = .ok (.dup, 1) := by decide +kernel
theorem dL_law_4 : decode cL_law 4 = .ok (.invokespecial 9, 3) := by decide +kernel
theorem dL_law_7 : decode cL_law 7 = .ok (.astore_n 1, 1) := by decide +kernel
theorem dL_law_8 : decode cL_law 8 = .ok (.new 10, 3) := by decide +kernel
theorem dL_law_11 : decode cL_law 11 = .ok (.dup, 1) := by decide +kernel
theorem dL_law_12 : decode cL_law 12 = .ok (.invokespecial 12, 3) := by decide +kernel
theorem dL_law_15 : decode cL_law 15 = .ok (.astore_n 2, 1) := by decide +kernel
theorem dL_law_16 : decode cL_law 16 = .ok (.iconst 0, 1) := by decide +kernel
theorem dL_law_17 : decode cL_law 17 = .ok (.istore_n 3, 1) := by decide +kernel
theorem dL_law_18 : decode cL_law 18 = .ok (.iload_n 3, 1) := by decide +kernel
theorem dL_law_19 : decode cL_law 19 = .ok (.aload_n 0, 1) := by decide +kernel
theorem dL_law_20 : decode cL_law 20 = .ok (.arraylength, 1) := by decide +kernel
theorem dL_law_21 : decode cL_law 21 = .ok (.bipush 6, 2) := by decide +kernel
theorem dL_law_23 : decode cL_law 23 = .ok (.isub, 1) := by decide +kernel
theorem dL_law_24 : decode cL_law 24 = .ok (.if_icmp .gt 1367, 3) := by decide +kernel
theorem dL_law_27 : decode cL_law 27 = .ok (.aload_n 0, 1) := by decide +kernel
theorem dL_law_28 : decode cL_law 28 = .ok (.iload_n 3, 1) := by decide +kernel
theorem dL_law_29 : decode cL_law 29 = .ok (.iaload, 1) := by decide +kernel
theorem dL_law_30 : decode cL_law 30 = .ok (.bipush 63, 2) := by decide +kernel
theorem dL_law_32 : decode cL_law 32 = .ok (.iand, 1) := by decide +kernel
theorem dL_law_33 : decode cL_law 33 = .ok (.tableswitch 1352 0 37 #[167, 200, 233, 256, 279, 312, 345, 388, 421, 454, 487, 530, 563, 586, 609, 652, 695, 728, 751, 784, 827, 860, 903, 926, 939, 972, 985, 998, 1041, 1115, 1178, 1201, 1234, 1267, 1280, 1293, 1306, 1329], 167) := by decide +kernel
theorem dL_law_200 : decode cL_law 200 = .ok (.aload_n 1, 1) := by decide +kernel
theorem dL_law_201 : decode cL_law 201 = .ok (.aload_n 0, 1) := by decide +kernel
theorem dL_law_202 : decode cL_law 202 = .ok (.iload_n 3, 1) := by decide +kernel
theorem dL_law_203 : decode cL_law 203 = .ok (.iconst 1, 1) := by decide +kernel
theorem dL_law_204 : decode cL_law 204 = .ok (.iadd, 1) := by decide +kernel
theorem dL_law_205 : decode cL_law 205 = .ok (.iaload, 1) := by decide +kernel
theorem dL_law_206 : decode cL_law 206 = .ok (.aload_n 0, 1) := by decide +kernel
theorem dL_law_207 : decode cL_law 207 = .ok (.iload_n 3, 1) := by decide +kernel
theorem dL_law_208 : decode cL_law 208 = .ok (.iconst 2, 1) := by decide +kernel
theorem dL_law_209 : decode cL_law 209 = .ok (.iadd, 1) := by decide +kernel
theorem dL_law_210 : decode cL_law 210 = .ok (.iaload, 1) := by decide +kernel
theorem dL_law_211 : decode cL_law 211 = .ok (.invokevirtual 13, 3) := by decide +kernel
theorem dL_law_214 : decode cL_law 214 = .ok (.aload_n 2, 1) := by decide +kernel
theorem dL_law_215 : decode cL_law 215 = .ok (.aload_n 0, 1) := by decide +kernel
theorem dL_law_216 : decode cL_law 216 = .ok (.iload_n 3, 1) := by decide +kernel
theorem dL_law_217 : decode cL_law 217 = .ok (.iconst 1, 1) := by decide +kernel
theorem dL_law_218 : decode cL_law 218 = .ok (.iadd, 1) := by decide +kernel
theorem dL_law_219 : decode cL_law 219 = .ok (.iaload, 1) := by decide +kernel
theorem dL_law_220 : decode cL_law 220 = .ok (.aload_n 0, 1) := by decide +kernel
theorem dL_law_221 : decode cL_law 221 = .ok (.iload_n 3, 1) := by decide +kernel
theorem dL_law_222 : decode cL_law 222 = .ok (.iconst 2, 1) := by decide +kernel
theorem dL_law_223 : decode cL_law 223 = .ok (.iadd, 1) := by decide +kernel
theorem dL_law_224 : decode cL_law 224 = .ok (.iaload, 1) := by decide +kernel
theorem dL_law_225 : decode cL_law 225 = .ok (.invokevirtual 17, 3) := by decide +kernel
theorem dL_law_228 : decode cL_law 228 = .ok (.if_icmp .eq 1157, 3) := by decide +kernel
theorem dL_law_231 : decode cL_law 231 = .ok (.iconst 0, 1) := by decide +kernel
theorem dL_law_232 : decode cL_law 232 = .ok (.ireturn, 1) := by decide +kernel
theorem dL_law_233 : decode cL_law 233 = .ok (.aload_n 1, 1) := by decide +kernel
theorem dL_law_234 : decode cL_law 234 = .ok (.aload_n 0, 1) := by decide +kernel
theorem dL_law_235 : decode cL_law 235 = .ok (.iload_n 3, 1) := by decide +kernel
theorem dL_law_236 : decode cL_law 236 = .ok (.iconst 1, 1) := by decide +kernel
theorem dL_law_237 : decode cL_law 237 = .ok (.iadd, 1) := by decide +kernel
theorem dL_law_238 : decode cL_law 238 = .ok (.iaload, 1) := by decide +kernel
theorem dL_law_239 : decode cL_law 239 = .ok (.aload_n 0, 1) := by decide +kernel
theorem dL_law_240 : decode cL_law 240 = .ok (.iload_n 3, 1) := by decide +kernel
theorem dL_law_241 : decode cL_law 241 = .ok (.iconst 2, 1) := by decide +kernel
theorem dL_law_242 : decode cL_law 242 = .ok (.iadd, 1) := by decide +kernel
theorem dL_law_243 : decode cL_law 243 = .ok (.iaload, 1) := by decide +kernel
theorem dL_law_244 : decode cL_law 244 = .ok (.invokevirtual 18, 3) := by decide +kernel
theorem dL_law_247 : decode cL_law 247 = .ok (.aload_n 2, 1) := by decide +kernel
theorem dL_law_248 : decode cL_law 248 = .ok (.aload_n 0, 1) := by decide +kernel
theorem dL_law_249 : decode cL_law 249 = .ok (.iload_n 3, 1) := by decide +kernel
theorem dL_law_250 : decode cL_law 250 = .ok (.iconst 1, 1) := by decide +kernel
theorem dL_law_251 : decode cL_law 251 = .ok (.iadd, 1) := by decide +kernel
theorem dL_law_252 : decode cL_law 252 = .ok (.iaload, 1) := by decide +kernel
theorem dL_law_253 : decode cL_law 253 = .ok (.aload_n 0, 1) := by decide +kernel
theorem dL_law_254 : decode cL_law 254 = .ok (.iload_n 3, 1) := by decide +kernel
theorem dL_law_255 : decode cL_law 255 = .ok (.iconst 2, 1) := by decide +kernel
theorem dL_law_256 : decode cL_law 256 = .ok (.iadd, 1) := by decide +kernel
theorem dL_law_257 : decode cL_law 257 = .ok (.iaload, 1) := by decide +kernel
theorem dL_law_258 : decode cL_law 258 = .ok (.invokevirtual 21, 3) := by decide +kernel
theorem dL_law_261 : decode cL_law 261 = .ok (.if_icmp .eq 1124, 3) := by decide +kernel
theorem dL_law_264 : decode cL_law 264 = .ok (.iconst 0, 1) := by decide +kernel
theorem dL_law_265 : decode cL_law 265 = .ok (.ireturn, 1) := by decide +kernel
theorem dL_law_266 : decode cL_law 266 = .ok (.aload_n 1, 1) := by decide +kernel
theorem dL_law_267 : decode cL_law 267 = .ok (.aload_n 0, 1) := by decide +kernel
theorem dL_law_268 : decode cL_law 268 = .ok (.iload_n 3, 1) := by decide +kernel
theorem dL_law_269 : decode cL_law 269 = .ok (.iconst 1, 1) := by decide +kernel
theorem dL_law_270 : decode cL_law 270 = .ok (.iadd, 1) := by decide +kernel
theorem dL_law_271 : decode cL_law 271 = .ok (.iaload, 1) := by decide +kernel
theorem dL_law_272 : decode cL_law 272 = .ok (.invokevirtual 22, 3) := by decide +kernel
theorem dL_law_275 : decode cL_law 275 = .ok (.aload_n 2, 1) := by decide +kernel
theorem dL_law_276 : decode cL_law 276 = .ok (.aload_n 0, 1) := by decide +kernel
theorem dL_law_277 : decode cL_law 277 = .ok (.iload_n 3, 1) := by decide +kernel
theorem dL_law_278 : decode cL_law 278 = .ok (.iconst 1, 1) := by decide +kernel
theorem dL_law_279 : decode cL_law 279 = .ok (.iadd, 1) := by decide +kernel
theorem dL_law_280 : decode cL_law 280 = .ok (.iaload, 1) := by decide +kernel
theorem dL_law_281 : decode cL_law 281 = .ok (.invokevirtual 26, 3) := by decide +kernel
theorem dL_law_284 : decode cL_law 284 = .ok (.if_icmp .eq 1101, 3) := by decide +kernel
theorem dL_law_287 : decode cL_law 287 = .ok (.iconst 0, 1) := by decide +kernel
theorem dL_law_288 : decode cL_law 288 = .ok (.ireturn, 1) := by decide +kernel
theorem dL_law_289 : decode cL_law 289 = .ok (.aload_n 1, 1) := by decide +kernel
theorem dL_law_290 : decode cL_law 290 = .ok (.aload_n 0, 1) := by decide +kernel
theorem dL_law_291 : decode cL_law 291 = .ok (.iload_n 3, 1) := by decide +kernel
theorem dL_law_292 : decode cL_law 292 = .ok (.iconst 1, 1) := by decide +kernel
theorem dL_law_293 : decode cL_law 293 = .ok (.iadd, 1) := by decide +kernel
theorem dL_law_294 : decode cL_law 294 = .ok (.iaload, 1) := by decide +kernel
theorem dL_law_295 : decode cL_law 295 = .ok (.invokevirtual 27, 3) := by decide +kernel
theorem dL_law_298 : decode cL_law 298 = .ok (.aload_n 2, 1) := by decide +kernel
theorem dL_law_299 : decode cL_law 299 = .ok (.aload_n 0, 1) := by decide +kernel
theorem dL_law_300 : decode cL_law 300 = .ok (.iload_n 3, 1) := by decide +kernel
theorem dL_law_301 : decode cL_law 301 = .ok (.iconst 1, 1) := by decide +kernel
theorem dL_law_302 : decode cL_law 302 = .ok (.iadd, 1) := by decide +kernel
theorem dL_law_303 : decode cL_law 303 = .ok (.iaload, 1) := by decide +kernel
theorem dL_law_304 : decode cL_law 304 = .ok (.invokevirtual 30, 3) := by decide +kernel
theorem dL_law_307 : decode cL_law 307 = .ok (.if_icmp .eq 1078, 3) := by decide +kernel
theorem dL_law_310 : decode cL_law 310 = .ok (.iconst 0, 1) := by decide +kernel
theorem dL_law_311 : decode cL_law 311 = .ok (.ireturn, 1) := by decide +kernel
theorem dL_law_312 : decode cL_law 312 = .ok (.aload_n 1, 1) := by decide +kernel
theorem dL_law_313 : decode cL_law 313 = .ok (.aload_n 0, 1) := by decide +kernel
theorem dL_law_314 : decode cL_law 314 = .ok (.iload_n 3, 1) := by decide +kernel
theorem dL_law_315 : decode cL_law 315 = .ok (.iconst 1, 1) := by decide +kernel
theorem dL_law_316 : decode cL_law 316 = .ok (.iadd, 1) := by decide +kernel
theorem dL_law_317 : decode cL_law 317 = .ok (.iaload, 1) := by decide +kernel
theorem dL_law_318 : decode cL_law 318 = .ok (.aload_n 0, 1) := by decide +kernel
theorem dL_law_319 : decode cL_law 319 = .ok (.iload_n 3, 1) := by decide +kernel
theorem dL_law_320 : decode cL_law 320 = .ok (.iconst 2, 1) := by decide +kernel
theorem dL_law_321 : decode cL_law 321 = .ok (.iadd, 1) := by decide +kernel
theorem dL_law_322 : decode cL_law 322 = .ok (.iaload, 1) := by decide +kernel
theorem dL_law_323 : decode cL_law 323 = .ok (.invokevirtual 31, 3) := by decide +kernel
theorem dL_law_326 : decode cL_law 326 = .ok (.aload_n 2, 1) := by decide +kernel
theorem dL_law_327 : decode cL_law 327 = .ok (.aload_n 0, 1) := by decide +kernel
theorem dL_law_328 : decode cL_law 328 = .ok (.iload_n 3, 1) := by decide +kernel
theorem dL_law_329 : decode cL_law 329 = .ok (.iconst 1, 1) := by decide +kernel
theorem dL_law_330 : decode cL_law 330 = .ok (.iadd, 1) := by decide +kernel
theorem dL_law_331 : decode cL_law 331 = .ok (.iaload, 1) := by decide +kernel
theorem dL_law_332 : decode cL_law 332 = .ok (.aload_n 0, 1) := by decide +kernel
theorem dL_law_333 : decode cL_law 333 = .ok (.iload_n 3, 1) := by decide +kernel
theorem dL_law_334 : decode cL_law 334 = .ok (.iconst 2, 1) := by decide +kernel
theorem dL_law_335 : decode cL_law 335 = .ok (.iadd, 1) := by decide +kernel
theorem dL_law_336 : decode cL_law 336 = .ok (.iaload, 1) := by decide +kernel
theorem dL_law_337 : decode cL_law 337 = .ok (.invokevirtual 34, 3) := by decide +kernel
theorem dL_law_340 : decode cL_law 340 = .ok (.if_icmp .eq 1045, 3) := by decide +kernel
theorem dL_law_343 : decode cL_law 343 = .ok (.iconst 0, 1) := by decide +kernel
theorem dL_law_344 : decode cL_law 344 = .ok (.ireturn, 1) := by decide +kernel
theorem dL_law_345 : decode cL_law 345 = .ok (.aload_n 1, 1) := by decide +kernel
theorem dL_law_346 : decode cL_law 346 = .ok (.aload_n 0, 1) := by decide +kernel
theorem dL_law_347 : decode cL_law 347 = .ok (.iload_n 3, 1) := by decide +kernel
theorem dL_law_348 : decode cL_law 348 = .ok (.iconst 1, 1) := by decide +kernel
theorem dL_law_349 : decode cL_law 349 = .ok (.iadd, 1) := by decide +kernel
theorem dL_law_350 : decode cL_law 350 = .ok (.iaload, 1) := by decide +kernel
theorem dL_law_351 : decode cL_law 351 = .ok (.aload_n 0, 1) := by decide +kernel
theorem dL_law_352 : decode cL_law 352 = .ok (.iload_n 3, 1) := by decide +kernel
theorem dL_law_353 : decode cL_law 353 = .ok (.iconst 2, 1) := by decide +kernel
theorem dL_law_354 : decode cL_law 354 = .ok (.iadd, 1) := by decide +kernel
theorem dL_law_355 : decode cL_law 355 = .ok (.iaload, 1) := by decide +kernel
theorem dL_law_356 : decode cL_law 356 = .ok (.invokevirtual 35, 3) := by decide +kernel
theorem dL_law_359 : decode cL_law 359 = .ok (.aload_n 2, 1) := by decide +kernel
theorem dL_law_360 : decode cL_law 360 = .ok (.aload_n 0, 1) := by decide +kernel
theorem dL_law_361 : decode cL_law 361 = .ok (.iload_n 3, 1) := by decide +kernel
theorem dL_law_362 : decode cL_law 362 = .ok (.iconst 1, 1) := by decide +kernel
theorem dL_law_363 : decode cL_law 363 = .ok (.iadd, 1) := by decide +kernel
theorem dL_law_364 : decode cL_law 364 = .ok (.iaload, 1) := by decide +kernel
theorem dL_law_365 : decode cL_law 365 = .ok (.aload_n 0, 1) := by decide +kernel
theorem dL_law_366 : decode cL_law 366 = .ok (.iload_n 3, 1) := by decide +kernel
theorem dL_law_367 : decode cL_law 367 = .ok (.iconst 2, 1) := by decide +kernel
theorem dL_law_368 : decode cL_law 368 = .ok (.iadd, 1) := by decide +kernel
theorem dL_law_369 : decode cL_law 369 = .ok (.iaload, 1) := by decide +kernel
theorem dL_law_370 : decode cL_law 370 = .ok (.invokevirtual 38, 3) := by decide +kernel
theorem dL_law_373 : decode cL_law 373 = .ok (.if_icmp .eq 1012, 3) := by decide +kernel
theorem dL_law_376 : decode cL_law 376 = .ok (.iconst 0, 1) := by decide +kernel
theorem dL_law_377 : decode cL_law 377 = .ok (.ireturn, 1) := by decide +kernel
theorem dL_law_378 : decode cL_law 378 = .ok (.aload_n 1, 1) := by decide +kernel
theorem dL_law_379 : decode cL_law 379 = .ok (.aload_n 0, 1) := by decide +kernel
theorem dL_law_380 : decode cL_law 380 = .ok (.iload_n 3, 1) := by decide +kernel
theorem dL_law_381 : decode cL_law 381 = .ok (.iconst 1, 1) := by decide +kernel
theorem dL_law_382 : decode cL_law 382 = .ok (.iadd, 1) := by decide +kernel
theorem dL_law_383 : decode cL_law 383 = .ok (.iaload, 1) := by decide +kernel
theorem dL_law_384 : decode cL_law 384 = .ok (.aload_n 0, 1) := by decide +kernel
theorem dL_law_385 : decode cL_law 385 = .ok (.iload_n 3, 1) := by decide +kernel
theorem dL_law_386 : decode cL_law 386 = .ok (.iconst 2, 1) := by decide +kernel
theorem dL_law_387 : decode cL_law 387 = .ok (.iadd, 1) := by decide +kernel
theorem dL_law_388 : decode cL_law 388 = .ok (.iaload, 1) := by decide +kernel
theorem dL_law_389 : decode cL_law 389 = .ok (.aload_n 0, 1) := by decide +kernel
theorem dL_law_390 : decode cL_law 390 = .ok (.iload_n 3, 1) := by decide +kernel
theorem dL_law_391 : decode cL_law 391 = .ok (.iconst 3, 1) := by decide +kernel
theorem dL_law_392 : decode cL_law 392 = .ok (.iadd, 1) := by decide +kernel
theorem dL_law_393 : decode cL_law 393 = .ok (.iaload, 1) := by decide +kernel
theorem dL_law_394 : decode cL_law 394 = .ok (.invokevirtual 39, 3) := by decide +kernel
theorem dL_law_397 : decode cL_law 397 = .ok (.aload_n 2, 1) := by decide +kernel
theorem dL_law_398 : decode cL_law 398 = .ok (.aload_n 0, 1) := by decide +kernel
theorem dL_law_399 : decode cL_law 399 = .ok (.iload_n 3, 1) := by decide +kernel
theorem dL_law_400 : decode cL_law 400 = .ok (.iconst 1, 1) := by decide +kernel
theorem dL_law_401 : decode cL_law 401 = .ok (.iadd, 1) := by decide +kernel
theorem dL_law_402 : decode cL_law 402 = .ok (.iaload, 1) := by decide +kernel
theorem dL_law_403 : decode cL_law 403 = .ok (.aload_n 0, 1) := by decide +kernel
theorem dL_law_404 : decode cL_law 404 = .ok (.iload_n 3, 1) := by decide +kernel
theorem dL_law_405 : decode cL_law 405 = .ok (.iconst 2, 1) := by decide +kernel
theorem dL_law_406 : decode cL_law 406 = .ok (.iadd, 1) := by decide +kernel
theorem dL_law_407 : decode cL_law 407 = .ok (.iaload, 1) := by decide +kernel
theorem dL_law_408 : decode cL_law 408 = .ok (.aload_n 0, 1) := by decide +kernel
theorem dL_law_409 : decode cL_law 409 = .ok (.iload_n 3, 1) := by decide +kernel
theorem dL_law_410 : decode cL_law 410 = .ok (.iconst 3, 1) := by decide +kernel
theorem dL_law_411 : decode cL_law 411 = .ok (.iadd, 1) := by decide +kernel
theorem dL_law_412 : decode cL_law 412 = .ok (.iaload, 1) := by decide +kernel
theorem dL_law_413 : decode cL_law 413 = .ok (.invokevirtual 43, 3) := by decide +kernel
theorem dL_law_416 : decode cL_law 416 = .ok (.if_icmp .eq 969, 3) := by decide +kernel
theorem dL_law_419 : decode cL_law 419 = .ok (.iconst 0, 1) := by decide +kernel
theorem dL_law_420 : decode cL_law 420 = .ok (.ireturn, 1) := by decide +kernel
theorem dL_law_421 : decode cL_law 421 = .ok (.aload_n 1, 1) := by decide +kernel
theorem dL_law_422 : decode cL_law 422 = .ok (.aload_n 0, 1) := by decide +kernel
theorem dL_law_423 : decode cL_law 423 = .ok (.iload_n 3, 1) := by decide +kernel
theorem dL_law_424 : decode cL_law 424 = .ok (.iconst 1, 1) := by decide +kernel
theorem dL_law_425 : decode cL_law 425 = .ok (.iadd, 1) := by decide +kernel
theorem dL_law_426 : decode cL_law 426 = .ok (.iaload, 1) := by decide +kernel
theorem dL_law_427 : decode cL_law 427 = .ok (.aload_n 0, 1) := by decide +kernel
theorem dL_law_428 : decode cL_law 428 = .ok (.iload_n 3, 1) := by decide +kernel
theorem dL_law_429 : decode cL_law 429 = .ok (.iconst 2, 1) := by decide +kernel
theorem dL_law_430 : decode cL_law 430 = .ok (.iadd, 1) := by decide +kernel
theorem dL_law_431 : decode cL_law 431 = .ok (.iaload, 1) := by decide +kernel
theorem dL_law_432 : decode cL_law 432 = .ok (.invokevirtual 44, 3) := by decide +kernel
theorem dL_law_435 : decode cL_law 435 = .ok (.aload_n 2, 1) := by decide +kernel
theorem dL_law_436 : decode cL_law 436 = .ok (.aload_n 0, 1) := by decide +kernel
theorem dL_law_437 : decode cL_law 437 = .ok (.iload_n 3, 1) := by decide +kernel
theorem dL_law_438 : decode cL_law 438 = .ok (.iconst 1, 1) := by decide +kernel
theorem dL_law_439 : decode cL_law 439 = .ok (.iadd, 1) := by decide +kernel
theorem dL_law_440 : decode cL_law 440 = .ok (.iaload, 1) := by decide +kernel
theorem dL_law_441 : decode cL_law 441 = .ok (.aload_n 0, 1) := by decide +kernel
theorem dL_law_442 : decode cL_law 442 = .ok (.iload_n 3, 1) := by decide +kernel
theorem dL_law_443 : decode cL_law 443 = .ok (.iconst 2, 1) := by decide +kernel
theorem dL_law_444 : decode cL_law 444 = .ok (.iadd, 1) := by decide +kernel
theorem dL_law_445 : decode cL_law 445 = .ok (.iaload, 1) := by decide +kernel
theorem dL_law_446 : decode cL_law 446 = .ok (.invokevirtual 47, 3) := by decide +kernel
theorem dL_law_449 : decode cL_law 449 = .ok (.if_icmp .eq 936, 3) := by decide +kernel
theorem dL_law_452 : decode cL_law 452 = .ok (.iconst 0, 1) := by decide +kernel
theorem dL_law_453 : decode cL_law 453 = .ok (.ireturn, 1) := by decide +kernel
theorem dL_law_454 : decode cL_law 454 = .ok (.aload_n 1, 1) := by decide +kernel
theorem dL_law_455 : decode cL_law 455 = .ok (.aload_n 0, 1) := by decide +kernel
theorem dL_law_456 : decode cL_law 456 = .ok (.iload_n 3, 1) := by decide +kernel
theorem dL_law_457 : decode cL_law 457 = .ok (.iconst 1, 1) := by decide +kernel
theorem dL_law_458 : decode cL_law 458 = .ok (.iadd, 1) := by decide +kernel
theorem dL_law_459 : decode cL_law 459 = .ok (.iaload, 1) := by decide +kernel
theorem dL_law_460 : decode cL_law 460 = .ok (.aload_n 0, 1) := by decide +kernel
theorem dL_law_461 : decode cL_law 461 = .ok (.iload_n 3, 1) := by decide +kernel
theorem dL_law_462 : decode cL_law 462 = .ok (.iconst 2, 1) := by decide +kernel
theorem dL_law_463 : decode cL_law 463 = .ok (.iadd, 1) := by decide +kernel
theorem dL_law_464 : decode cL_law 464 = .ok (.iaload, 1) := by decide +kernel
theorem dL_law_465 : decode cL_law 465 = .ok (.invokevirtual 48, 3) := by decide +kernel
theorem dL_law_468 : decode cL_law 468 = .ok (.aload_n 2, 1) := by decide +kernel
theorem dL_law_469 : decode cL_law 469 = .ok (.aload_n 0, 1) := by decide +kernel
theorem dL_law_470 : decode cL_law 470 = .ok (.iload_n 3, 1) := by decide +kernel
theorem dL_law_471 : decode cL_law 471 = .ok (.iconst 1, 1) := by decide +kernel
theorem dL_law_472 : decode cL_law 472 = .ok (.iadd, 1) := by decide +kernel
theorem dL_law_473 : decode cL_law 473 = .ok (.iaload, 1) := by decide +kernel
theorem dL_law_474 : decode cL_law 474 = .ok (.aload_n 0, 1) := by decide +kernel
theorem dL_law_475 : decode cL_law 475 = .ok (.iload_n 3, 1) := by decide +kernel
theorem dL_law_476 : decode cL_law 476 = .ok (.iconst 2, 1) := by decide +kernel
theorem dL_law_477 : decode cL_law 477 = .ok (.iadd, 1) := by decide +kernel
theorem dL_law_478 : decode cL_law 478 = .ok (.iaload, 1) := by decide +kernel
theorem dL_law_479 : decode cL_law 479 = .ok (.invokevirtual 51, 3) := by decide +kernel
theorem dL_law_482 : decode cL_law 482 = .ok (.if_icmp .eq 903, 3) := by decide +kernel
theorem dL_law_485 : decode cL_law 485 = .ok (.iconst 0, 1) := by decide +kernel
theorem dL_law_486 : decode cL_law 486 = .ok (.ireturn, 1) := by decide +kernel
theorem dL_law_487 : decode cL_law 487 = .ok (.aload_n 1, 1) := by decide +kernel
theorem dL_law_488 : decode cL_law 488 = .ok (.aload_n 0, 1) := by decide +kernel
theorem dL_law_489 : decode cL_law 489 = .ok (.iload_n 3, 1) := by decide +kernel
theorem dL_law_490 : decode cL_law 490 = .ok (.iconst 1, 1) := by decide +kernel
theorem dL_law_491 : decode cL_law 491 = .ok (.iadd, 1) := by decide +kernel
theorem dL_law_492 : decode cL_law 492 = .ok (.iaload, 1) := by decide +kernel
theorem dL_law_493 : decode cL_law 493 = .ok (.aload_n 0, 1) := by decide +kernel
theorem dL_law_494 : decode cL_law 494 = .ok (.iload_n 3, 1) := by decide +kernel
theorem dL_law_495 : decode cL_law 495 = .ok (.iconst 2, 1) := by decide +kernel
theorem dL_law_496 : decode cL_law 496 = .ok (.iadd, 1) := by decide +kernel
theorem dL_law_497 : decode cL_law 497 = .ok (.iaload, 1) := by decide +kernel
theorem dL_law_498 : decode cL_law 498 = .ok (.invokevirtual 52, 3) := by decide +kernel
theorem dL_law_501 : decode cL_law 501 = .ok (.aload_n 2, 1) := by decide +kernel
theorem dL_law_502 : decode cL_law 502 = .ok (.aload_n 0, 1) := by decide +kernel
theorem dL_law_503 : decode cL_law 503 = .ok (.iload_n 3, 1) := by decide +kernel
theorem dL_law_504 : decode cL_law 504 = .ok (.iconst 1, 1) := by decide +kernel
theorem dL_law_505 : decode cL_law 505 = .ok (.iadd, 1) := by decide +kernel
theorem dL_law_506 : decode cL_law 506 = .ok (.iaload, 1) := by decide +kernel
theorem dL_law_507 : decode cL_law 507 = .ok (.aload_n 0, 1) := by decide +kernel
theorem dL_law_508 : decode cL_law 508 = .ok (.iload_n 3, 1) := by decide +kernel
theorem dL_law_509 : decode cL_law 509 = .ok (.iconst 2, 1) := by decide +kernel
theorem dL_law_510 : decode cL_law 510 = .ok (.iadd, 1) := by decide +kernel
theorem dL_law_511 : decode cL_law 511 = .ok (.iaload, 1) := by decide +kernel
theorem dL_law_512 : decode cL_law 512 = .ok (.invokevirtual 55, 3) := by decide +kernel
theorem dL_law_515 : decode cL_law 515 = .ok (.if_icmp .eq 870, 3) := by decide +kernel
theorem dL_law_518 : decode cL_law 518 = .ok (.iconst 0, 1) := by decide +kernel
theorem dL_law_519 : decode cL_law 519 = .ok (.ireturn, 1) := by decide +kernel
theorem dL_law_520 : decode cL_law 520 = .ok (.aload_n 1, 1) := by decide +kernel
theorem dL_law_521 : decode cL_law 521 = .ok (.aload_n 0, 1) := by decide +kernel
theorem dL_law_522 : decode cL_law 522 = .ok (.iload_n 3, 1) := by decide +kernel
theorem dL_law_523 : decode cL_law 523 = .ok (.iconst 1, 1) := by decide +kernel
theorem dL_law_524 : decode cL_law 524 = .ok (.iadd, 1) := by decide +kernel
theorem dL_law_525 : decode cL_law 525 = .ok (.iaload, 1) := by decide +kernel
theorem dL_law_526 : decode cL_law 526 = .ok (.aload_n 0, 1) := by decide +kernel
theorem dL_law_527 : decode cL_law 527 = .ok (.iload_n 3, 1) := by decide +kernel
theorem dL_law_528 : decode cL_law 528 = .ok (.iconst 2, 1) := by decide +kernel
theorem dL_law_529 : decode cL_law 529 = .ok (.iadd, 1) := by decide +kernel
theorem dL_law_530 : decode cL_law 530 = .ok (.iaload, 1) := by decide +kernel
theorem dL_law_531 : decode cL_law 531 = .ok (.aload_n 0, 1) := by decide +kernel
theorem dL_law_532 : decode cL_law 532 = .ok (.iload_n 3, 1) := by decide +kernel
theorem dL_law_533 : decode cL_law 533 = .ok (.iconst 3, 1) := by decide +kernel
theorem dL_law_534 : decode cL_law 534 = .ok (.iadd, 1) := by decide +kernel
theorem dL_law_535 : decode cL_law 535 = .ok (.iaload, 1) := by decide +kernel
theorem dL_law_536 : decode cL_law 536 = .ok (.invokevirtual 56, 3) := by decide +kernel
theorem dL_law_539 : decode cL_law 539 = .ok (.aload_n 2, 1) := by decide +kernel
theorem dL_law_540 : decode cL_law 540 = .ok (.aload_n 0, 1) := by decide +kernel
theorem dL_law_541 : decode cL_law 541 = .ok (.iload_n 3, 1) := by decide +kernel
theorem dL_law_542 : decode cL_law 542 = .ok (.iconst 1, 1) := by decide +kernel
theorem dL_law_543 : decode cL_law 543 = .ok (.iadd, 1) := by decide +kernel
theorem dL_law_544 : decode cL_law 544 = .ok (.iaload, 1) := by decide +kernel
theorem dL_law_545 : decode cL_law 545 = .ok (.aload_n 0, 1) := by decide +kernel
theorem dL_law_546 : decode cL_law 546 = .ok (.iload_n 3, 1) := by decide +kernel
theorem dL_law_547 : decode cL_law 547 = .ok (.iconst 2, 1) := by decide +kernel
theorem dL_law_548 : decode cL_law 548 = .ok (.iadd, 1) := by decide +kernel
theorem dL_law_549 : decode cL_law 549 = .ok (.iaload, 1) := by decide +kernel
theorem dL_law_550 : decode cL_law 550 = .ok (.aload_n 0, 1) := by decide +kernel
theorem dL_law_551 : decode cL_law 551 = .ok (.iload_n 3, 1) := by decide +kernel
theorem dL_law_552 : decode cL_law 552 = .ok (.iconst 3, 1) := by decide +kernel
theorem dL_law_553 : decode cL_law 553 = .ok (.iadd, 1) := by decide +kernel
theorem dL_law_554 : decode cL_law 554 = .ok (.iaload, 1) := by decide +kernel
theorem dL_law_555 : decode cL_law 555 = .ok (.invokevirtual 59, 3) := by decide +kernel
theorem dL_law_558 : decode cL_law 558 = .ok (.if_icmp .eq 827, 3) := by decide +kernel
theorem dL_law_561 : decode cL_law 561 = .ok (.iconst 0, 1) := by decide +kernel
theorem dL_law_562 : decode cL_law 562 = .ok (.ireturn, 1) := by decide +kernel
theorem dL_law_563 : decode cL_law 563 = .ok (.aload_n 1, 1) := by decide +kernel
theorem dL_law_564 : decode cL_law 564 = .ok (.aload_n 0, 1) := by decide +kernel
theorem dL_law_565 : decode cL_law 565 = .ok (.iload_n 3, 1) := by decide +kernel
theorem dL_law_566 : decode cL_law 566 = .ok (.iconst 1, 1) := by decide +kernel
theorem dL_law_567 : decode cL_law 567 = .ok (.iadd, 1) := by decide +kernel
theorem dL_law_568 : decode cL_law 568 = .ok (.iaload, 1) := by decide +kernel
theorem dL_law_569 : decode cL_law 569 = .ok (.aload_n 0, 1) := by decide +kernel
theorem dL_law_570 : decode cL_law 570 = .ok (.iload_n 3, 1) := by decide +kernel
theorem dL_law_571 : decode cL_law 571 = .ok (.iconst 2, 1) := by decide +kernel
theorem dL_law_572 : decode cL_law 572 = .ok (.iadd, 1) := by decide +kernel
theorem dL_law_573 : decode cL_law 573 = .ok (.iaload, 1) := by decide +kernel
theorem dL_law_574 : decode cL_law 574 = .ok (.invokevirtual 60, 3) := by decide +kernel
theorem dL_law_577 : decode cL_law 577 = .ok (.aload_n 2, 1) := by decide +kernel
theorem dL_law_578 : decode cL_law 578 = .ok (.aload_n 0, 1) := by decide +kernel
theorem dL_law_579 : decode cL_law 579 = .ok (.iload_n 3, 1) := by decide +kernel
theorem dL_law_580 : decode cL_law 580 = .ok (.iconst 1, 1) := by decide +kernel
theorem dL_law_581 : decode cL_law 581 = .ok (.iadd, 1) := by decide +kernel
theorem dL_law_582 : decode cL_law 582 = .ok (.iaload, 1) := by decide +kernel
theorem dL_law_583 : decode cL_law 583 = .ok (.aload_n 0, 1) := by decide +kernel
theorem dL_law_584 : decode cL_law 584 = .ok (.iload_n 3, 1) := by decide +kernel
theorem dL_law_585 : decode cL_law 585 = .ok (.iconst 2, 1) := by decide +kernel
theorem dL_law_586 : decode cL_law 586 = .ok (.iadd, 1) := by decide +kernel
theorem dL_law_587 : decode cL_law 587 = .ok (.iaload, 1) := by decide +kernel
theorem dL_law_588 : decode cL_law 588 = .ok (.invokevirtual 63, 3) := by decide +kernel
theorem dL_law_591 : decode cL_law 591 = .ok (.if_icmp .eq 794, 3) := by decide +kernel
theorem dL_law_594 : decode cL_law 594 = .ok (.iconst 0, 1) := by decide +kernel
theorem dL_law_595 : decode cL_law 595 = .ok (.ireturn, 1) := by decide +kernel
theorem dL_law_596 : decode cL_law 596 = .ok (.aload_n 1, 1) := by decide +kernel
theorem dL_law_597 : decode cL_law 597 = .ok (.aload_n 0, 1) := by decide +kernel
theorem dL_law_598 : decode cL_law 598 = .ok (.iload_n 3, 1) := by decide +kernel
theorem dL_law_599 : decode cL_law 599 = .ok (.iconst 1, 1) := by decide +kernel
theorem dL_law_600 : decode cL_law 600 = .ok (.iadd, 1) := by decide +kernel
theorem dL_law_601 : decode cL_law 601 = .ok (.iaload, 1) := by decide +kernel
theorem dL_law_602 : decode cL_law 602 = .ok (.invokevirtual 64, 3) := by decide +kernel
theorem dL_law_605 : decode cL_law 605 = .ok (.aload_n 2, 1) := by decide +kernel
theorem dL_law_606 : decode cL_law 606 = .ok (.aload_n 0, 1) := by decide +kernel
theorem dL_law_607 : decode cL_law 607 = .ok (.iload_n 3, 1) := by decide +kernel
theorem dL_law_608 : decode cL_law 608 = .ok (.iconst 1, 1) := by decide +kernel
theorem dL_law_609 : decode cL_law 609 = .ok (.iadd, 1) := by decide +kernel
theorem dL_law_610 : decode cL_law 610 = .ok (.iaload, 1) := by decide +kernel
theorem dL_law_611 : decode cL_law 611 = .ok (.invokevirtual 67, 3) := by decide +kernel
theorem dL_law_614 : decode cL_law 614 = .ok (.if_icmp .eq 771, 3) := by decide +kernel
theorem dL_law_617 : decode cL_law 617 = .ok (.iconst 0, 1) := by decide +kernel
theorem dL_law_618 : decode cL_law 618 = .ok (.ireturn, 1) := by decide +kernel
theorem dL_law_619 : decode cL_law 619 = .ok (.aload_n 1, 1) := by decide +kernel
theorem dL_law_620 : decode cL_law 620 = .ok (.aload_n 0, 1) := by decide +kernel
theorem dL_law_621 : decode cL_law 621 = .ok (.iload_n 3, 1) := by decide +kernel
theorem dL_law_622 : decode cL_law 622 = .ok (.iconst 1, 1) := by decide +kernel
theorem dL_law_623 : decode cL_law 623 = .ok (.iadd, 1) := by decide +kernel
theorem dL_law_624 : decode cL_law 624 = .ok (.iaload, 1) := by decide +kernel
theorem dL_law_625 : decode cL_law 625 = .ok (.invokevirtual 68, 3) := by decide +kernel
theorem dL_law_628 : decode cL_law 628 = .ok (.aload_n 2, 1) := by decide +kernel
theorem dL_law_629 : decode cL_law 629 = .ok (.aload_n 0, 1) := by decide +kernel
theorem dL_law_630 : decode cL_law 630 = .ok (.iload_n 3, 1) := by decide +kernel
theorem dL_law_631 : decode cL_law 631 = .ok (.iconst 1, 1) := by decide +kernel
theorem dL_law_632 : decode cL_law 632 = .ok (.iadd, 1) := by decide +kernel
theorem dL_law_633 : decode cL_law 633 = .ok (.iaload, 1) := by decide +kernel
theorem dL_law_634 : decode cL_law 634 = .ok (.invokevirtual 71, 3) := by decide +kernel
theorem dL_law_637 : decode cL_law 637 = .ok (.if_icmp .eq 748, 3) := by decide +kernel
theorem dL_law_640 : decode cL_law 640 = .ok (.iconst 0, 1) := by decide +kernel
theorem dL_law_641 : decode cL_law 641 = .ok (.ireturn, 1) := by decide +kernel
theorem dL_law_642 : decode cL_law 642 = .ok (.aload_n 1, 1) := by decide +kernel
theorem dL_law_643 : decode cL_law 643 = .ok (.aload_n 0, 1) := by decide +kernel
theorem dL_law_644 : decode cL_law 644 = .ok (.iload_n 3, 1) := by decide +kernel
theorem dL_law_645 : decode cL_law 645 = .ok (.iconst 1, 1) := by decide +kernel
theorem dL_law_646 : decode cL_law 646 = .ok (.iadd, 1) := by decide +kernel
theorem dL_law_647 : decode cL_law 647 = .ok (.iaload, 1) := by decide +kernel
theorem dL_law_648 : decode cL_law 648 = .ok (.aload_n 0, 1) := by decide +kernel
theorem dL_law_649 : decode cL_law 649 = .ok (.iload_n 3, 1) := by decide +kernel
theorem dL_law_650 : decode cL_law 650 = .ok (.iconst 2, 1) := by decide +kernel
theorem dL_law_651 : decode cL_law 651 = .ok (.iadd, 1) := by decide +kernel
theorem dL_law_652 : decode cL_law 652 = .ok (.iaload, 1) := by decide +kernel
theorem dL_law_653 : decode cL_law 653 = .ok (.aload_n 0, 1) := by decide +kernel
theorem dL_law_654 : decode cL_law 654 = .ok (.iload_n 3, 1) := by decide +kernel
theorem dL_law_655 : decode cL_law 655 = .ok (.iconst 3, 1) := by decide +kernel
theorem dL_law_656 : decode cL_law 656 = .ok (.iadd, 1) := by decide +kernel
theorem dL_law_657 : decode cL_law 657 = .ok (.iaload, 1) := by decide +kernel
theorem dL_law_658 : decode cL_law 658 = .ok (.invokevirtual 72, 3) := by decide +kernel
theorem dL_law_661 : decode cL_law 661 = .ok (.aload_n 2, 1) := by decide +kernel
theorem dL_law_662 : decode cL_law 662 = .ok (.aload_n 0, 1) := by decide +kernel
theorem dL_law_663 : decode cL_law 663 = .ok (.iload_n 3, 1) := by decide +kernel
theorem dL_law_664 : decode cL_law 664 = .ok (.iconst 1, 1) := by decide +kernel
theorem dL_law_665 : decode cL_law 665 = .ok (.iadd, 1) := by decide +kernel
theorem dL_law_666 : decode cL_law 666 = .ok (.iaload, 1) := by decide +kernel
theorem dL_law_667 : decode cL_law 667 = .ok (.aload_n 0, 1) := by decide +kernel
theorem dL_law_668 : decode cL_law 668 = .ok (.iload_n 3, 1) := by decide +kernel
theorem dL_law_669 : decode cL_law 669 = .ok (.iconst 2, 1) := by decide +kernel
theorem dL_law_670 : decode cL_law 670 = .ok (.iadd, 1) := by decide +kernel
theorem dL_law_671 : decode cL_law 671 = .ok (.iaload, 1) := by decide +kernel
theorem dL_law_672 : decode cL_law 672 = .ok (.aload_n 0, 1) := by decide +kernel
theorem dL_law_673 : decode cL_law 673 = .ok (.iload_n 3, 1) := by decide +kernel
theorem dL_law_674 : decode cL_law 674 = .ok (.iconst 3, 1) := by decide +kernel
theorem dL_law_675 : decode cL_law 675 = .ok (.iadd, 1) := by decide +kernel
theorem dL_law_676 : decode cL_law 676 = .ok (.iaload, 1) := by decide +kernel
theorem dL_law_677 : decode cL_law 677 = .ok (.invokevirtual 75, 3) := by decide +kernel
theorem dL_law_680 : decode cL_law 680 = .ok (.if_icmp .eq 705, 3) := by decide +kernel
theorem dL_law_683 : decode cL_law 683 = .ok (.iconst 0, 1) := by decide +kernel
theorem dL_law_684 : decode cL_law 684 = .ok (.ireturn, 1) := by decide +kernel
theorem dL_law_685 : decode cL_law 685 = .ok (.aload_n 1, 1) := by decide +kernel
theorem dL_law_686 : decode cL_law 686 = .ok (.aload_n 0, 1) := by decide +kernel
theorem dL_law_687 : decode cL_law 687 = .ok (.iload_n 3, 1) := by decide +kernel
theorem dL_law_688 : decode cL_law 688 = .ok (.iconst 1, 1) := by decide +kernel
theorem dL_law_689 : decode cL_law 689 = .ok (.iadd, 1) := by decide +kernel
theorem dL_law_690 : decode cL_law 690 = .ok (.iaload, 1) := by decide +kernel
theorem dL_law_691 : decode cL_law 691 = .ok (.aload_n 0, 1) := by decide +kernel
theorem dL_law_692 : decode cL_law 692 = .ok (.iload_n 3, 1) := by decide +kernel
theorem dL_law_693 : decode cL_law 693 = .ok (.iconst 2, 1) := by decide +kernel
theorem dL_law_694 : decode cL_law 694 = .ok (.iadd, 1) := by decide +kernel
theorem dL_law_695 : decode cL_law 695 = .ok (.iaload, 1) := by decide +kernel
theorem dL_law_696 : decode cL_law 696 = .ok (.aload_n 0, 1) := by decide +kernel
theorem dL_law_697 : decode cL_law 697 = .ok (.iload_n 3, 1) := by decide +kernel
theorem dL_law_698 : decode cL_law 698 = .ok (.iconst 3, 1) := by decide +kernel
theorem dL_law_699 : decode cL_law 699 = .ok (.iadd, 1) := by decide +kernel
theorem dL_law_700 : decode cL_law 700 = .ok (.iaload, 1) := by decide +kernel
theorem dL_law_701 : decode cL_law 701 = .ok (.invokevirtual 76, 3) := by decide +kernel
theorem dL_law_704 : decode cL_law 704 = .ok (.aload_n 2, 1) := by decide +kernel
theorem dL_law_705 : decode cL_law 705 = .ok (.aload_n 0, 1) := by decide +kernel
theorem dL_law_706 : decode cL_law 706 = .ok (.iload_n 3, 1) := by decide +kernel
theorem dL_law_707 : decode cL_law 707 = .ok (.iconst 1, 1) := by decide +kernel
theorem dL_law_708 : decode cL_law 708 = .ok (.iadd, 1) := by decide +kernel
theorem dL_law_709 : decode cL_law 709 = .ok (.iaload, 1) := by decide +kernel
theorem dL_law_710 : decode cL_law 710 = .ok (.aload_n 0, 1) := by decide +kernel
theorem dL_law_711 : decode cL_law 711 = .ok (.iload_n 3, 1) := by decide +kernel
theorem dL_law_712 : decode cL_law 712 = .ok (.iconst 2, 1) := by decide +kernel
theorem dL_law_713 : decode cL_law 713 = .ok (.iadd, 1) := by decide +kernel
theorem dL_law_714 : decode cL_law 714 = .ok (.iaload, 1) := by decide +kernel
theorem dL_law_715 : decode cL_law 715 = .ok (.aload_n 0, 1) := by decide +kernel
theorem dL_law_716 : decode cL_law 716 = .ok (.iload_n 3, 1) := by decide +kernel
theorem dL_law_717 : decode cL_law 717 = .ok (.iconst 3, 1) := by decide +kernel
theorem dL_law_718 : decode cL_law 718 = .ok (.iadd, 1) := by decide +kernel
theorem dL_law_719 : decode cL_law 719 = .ok (.iaload, 1) := by decide +kernel
theorem dL_law_720 : decode cL_law 720 = .ok (.invokevirtual 79, 3) := by decide +kernel
theorem dL_law_723 : decode cL_law 723 = .ok (.if_icmp .eq 662, 3) := by decide +kernel
theorem dL_law_726 : decode cL_law 726 = .ok (.iconst 0, 1) := by decide +kernel
theorem dL_law_727 : decode cL_law 727 = .ok (.ireturn, 1) := by decide +kernel
theorem dL_law_728 : decode cL_law 728 = .ok (.aload_n 1, 1) := by decide +kernel
theorem dL_law_729 : decode cL_law 729 = .ok (.aload_n 0, 1) := by decide +kernel
theorem dL_law_730 : decode cL_law 730 = .ok (.iload_n 3, 1) := by decide +kernel
theorem dL_law_731 : decode cL_law 731 = .ok (.iconst 1, 1) := by decide +kernel
theorem dL_law_732 : decode cL_law 732 = .ok (.iadd, 1) := by decide +kernel
theorem dL_law_733 : decode cL_law 733 = .ok (.iaload, 1) := by decide +kernel
theorem dL_law_734 : decode cL_law 734 = .ok (.aload_n 0, 1) := by decide +kernel
theorem dL_law_735 : decode cL_law 735 = .ok (.iload_n 3, 1) := by decide +kernel
theorem dL_law_736 : decode cL_law 736 = .ok (.iconst 2, 1) := by decide +kernel
theorem dL_law_737 : decode cL_law 737 = .ok (.iadd, 1) := by decide +kernel
theorem dL_law_738 : decode cL_law 738 = .ok (.iaload, 1) := by decide +kernel
theorem dL_law_739 : decode cL_law 739 = .ok (.invokevirtual 80, 3) := by decide +kernel
theorem dL_law_742 : decode cL_law 742 = .ok (.aload_n 2, 1) := by decide +kernel
theorem dL_law_743 : decode cL_law 743 = .ok (.aload_n 0, 1) := by decide +kernel
theorem dL_law_744 : decode cL_law 744 = .ok (.iload_n 3, 1) := by decide +kernel
theorem dL_law_745 : decode cL_law 745 = .ok (.iconst 1, 1) := by decide +kernel
theorem dL_law_746 : decode cL_law 746 = .ok (.iadd, 1) := by decide +kernel
theorem dL_law_747 : decode cL_law 747 = .ok (.iaload, 1) := by decide +kernel
theorem dL_law_748 : decode cL_law 748 = .ok (.aload_n 0, 1) := by decide +kernel
theorem dL_law_749 : decode cL_law 749 = .ok (.iload_n 3, 1) := by decide +kernel
theorem dL_law_750 : decode cL_law 750 = .ok (.iconst 2, 1) := by decide +kernel
theorem dL_law_751 : decode cL_law 751 = .ok (.iadd, 1) := by decide +kernel
theorem dL_law_752 : decode cL_law 752 = .ok (.iaload, 1) := by decide +kernel
theorem dL_law_753 : decode cL_law 753 = .ok (.invokevirtual 83, 3) := by decide +kernel
theorem dL_law_756 : decode cL_law 756 = .ok (.if_icmp .eq 629, 3) := by decide +kernel
theorem dL_law_759 : decode cL_law 759 = .ok (.iconst 0, 1) := by decide +kernel
theorem dL_law_760 : decode cL_law 760 = .ok (.ireturn, 1) := by decide +kernel
theorem dL_law_761 : decode cL_law 761 = .ok (.aload_n 1, 1) := by decide +kernel
theorem dL_law_762 : decode cL_law 762 = .ok (.aload_n 0, 1) := by decide +kernel
theorem dL_law_763 : decode cL_law 763 = .ok (.iload_n 3, 1) := by decide +kernel
theorem dL_law_764 : decode cL_law 764 = .ok (.iconst 1, 1) := by decide +kernel
theorem dL_law_765 : decode cL_law 765 = .ok (.iadd, 1) := by decide +kernel
theorem dL_law_766 : decode cL_law 766 = .ok (.iaload, 1) := by decide +kernel
theorem dL_law_767 : decode cL_law 767 = .ok (.invokevirtual 84, 3) := by decide +kernel
theorem dL_law_770 : decode cL_law 770 = .ok (.aload_n 2, 1) := by decide +kernel
theorem dL_law_771 : decode cL_law 771 = .ok (.aload_n 0, 1) := by decide +kernel
theorem dL_law_772 : decode cL_law 772 = .ok (.iload_n 3, 1) := by decide +kernel
theorem dL_law_773 : decode cL_law 773 = .ok (.iconst 1, 1) := by decide +kernel
theorem dL_law_774 : decode cL_law 774 = .ok (.iadd, 1) := by decide +kernel
theorem dL_law_775 : decode cL_law 775 = .ok (.iaload, 1) := by decide +kernel
theorem dL_law_776 : decode cL_law 776 = .ok (.invokevirtual 87, 3) := by decide +kernel
theorem dL_law_779 : decode cL_law 779 = .ok (.if_icmp .eq 606, 3) := by decide +kernel
theorem dL_law_782 : decode cL_law 782 = .ok (.iconst 0, 1) := by decide +kernel
theorem dL_law_783 : decode cL_law 783 = .ok (.ireturn, 1) := by decide +kernel
theorem dL_law_784 : decode cL_law 784 = .ok (.aload_n 1, 1) := by decide +kernel
theorem dL_law_785 : decode cL_law 785 = .ok (.aload_n 0, 1) := by decide +kernel
theorem dL_law_786 : decode cL_law 786 = .ok (.iload_n 3, 1) := by decide +kernel
theorem dL_law_787 : decode cL_law 787 = .ok (.iconst 1, 1) := by decide +kernel
theorem dL_law_788 : decode cL_law 788 = .ok (.iadd, 1) := by decide +kernel
theorem dL_law_789 : decode cL_law 789 = .ok (.iaload, 1) := by decide +kernel
theorem dL_law_790 : decode cL_law 790 = .ok (.aload_n 0, 1) := by decide +kernel
theorem dL_law_791 : decode cL_law 791 = .ok (.iload_n 3, 1) := by decide +kernel
theorem dL_law_792 : decode cL_law 792 = .ok (.iconst 2, 1) := by decide +kernel
theorem dL_law_793 : decode cL_law 793 = .ok (.iadd, 1) := by decide +kernel
theorem dL_law_794 : decode cL_law 794 = .ok (.iaload, 1) := by decide +kernel
theorem dL_law_795 : decode cL_law 795 = .ok (.invokevirtual 88, 3) := by decide +kernel
theorem dL_law_798 : decode cL_law 798 = .ok (.aload_n 2, 1) := by decide +kernel
theorem dL_law_799 : decode cL_law 799 = .ok (.aload_n 0, 1) := by decide +kernel
theorem dL_law_800 : decode cL_law 800 = .ok (.iload_n 3, 1) := by decide +kernel
theorem dL_law_801 : decode cL_law 801 = .ok (.iconst 1, 1) := by decide +kernel
theorem dL_law_802 : decode cL_law 802 = .ok (.iadd, 1) := by decide +kernel
theorem dL_law_803 : decode cL_law 803 = .ok (.iaload, 1) := by decide +kernel
theorem dL_law_804 : decode cL_law 804 = .ok (.aload_n 0, 1) := by decide +kernel
theorem dL_law_805 : decode cL_law 805 = .ok (.iload_n 3, 1) := by decide +kernel
theorem dL_law_806 : decode cL_law 806 = .ok (.iconst 2, 1) := by decide +kernel
theorem dL_law_807 : decode cL_law 807 = .ok (.iadd, 1) := by decide +kernel
theorem dL_law_808 : decode cL_law 808 = .ok (.iaload, 1) := by decide +kernel
theorem dL_law_809 : decode cL_law 809 = .ok (.invokevirtual 91, 3) := by decide +kernel
theorem dL_law_812 : decode cL_law 812 = .ok (.if_icmp .eq 573, 3) := by decide +kernel
theorem dL_law_815 : decode cL_law 815 = .ok (.iconst 0, 1) := by decide +kernel
theorem dL_law_816 : decode cL_law 816 = .ok (.ireturn, 1) := by decide +kernel
theorem dL_law_817 : decode cL_law 817 = .ok (.aload_n 1, 1) := by decide +kernel
theorem dL_law_818 : decode cL_law 818 = .ok (.aload_n 0, 1) := by decide +kernel
theorem dL_law_819 : decode cL_law 819 = .ok (.iload_n 3, 1) := by decide +kernel
theorem dL_law_820 : decode cL_law 820 = .ok (.iconst 1, 1) := by decide +kernel
theorem dL_law_821 : decode cL_law 821 = .ok (.iadd, 1) := by decide +kernel
theorem dL_law_822 : decode cL_law 822 = .ok (.iaload, 1) := by decide +kernel
theorem dL_law_823 : decode cL_law 823 = .ok (.aload_n 0, 1) := by decide +kernel
theorem dL_law_824 : decode cL_law 824 = .ok (.iload_n 3, 1) := by decide +kernel
theorem dL_law_825 : decode cL_law 825 = .ok (.iconst 2, 1) := by decide +kernel
theorem dL_law_826 : decode cL_law 826 = .ok (.iadd, 1) := by decide +kernel
theorem dL_law_827 : decode cL_law 827 = .ok (.iaload, 1) := by decide +kernel
theorem dL_law_828 : decode cL_law 828 = .ok (.aload_n 0, 1) := by decide +kernel
theorem dL_law_829 : decode cL_law 829 = .ok (.iload_n 3, 1) := by decide +kernel
theorem dL_law_830 : decode cL_law 830 = .ok (.iconst 3, 1) := by decide +kernel
theorem dL_law_831 : decode cL_law 831 = .ok (.iadd, 1) := by decide +kernel
theorem dL_law_832 : decode cL_law 832 = .ok (.iaload, 1) := by decide +kernel
theorem dL_law_833 : decode cL_law 833 = .ok (.invokevirtual 92, 3) := by decide +kernel
theorem dL_law_836 : decode cL_law 836 = .ok (.aload_n 2, 1) := by decide +kernel
theorem dL_law_837 : decode cL_law 837 = .ok (.aload_n 0, 1) := by decide +kernel
theorem dL_law_838 : decode cL_law 838 = .ok (.iload_n 3, 1) := by decide +kernel
theorem dL_law_839 : decode cL_law 839 = .ok (.iconst 1, 1) := by decide +kernel
theorem dL_law_840 : decode cL_law 840 = .ok (.iadd, 1) := by decide +kernel
theorem dL_law_841 : decode cL_law 841 = .ok (.iaload, 1) := by decide +kernel
theorem dL_law_842 : decode cL_law 842 = .ok (.aload_n 0, 1) := by decide +kernel
theorem dL_law_843 : decode cL_law 843 = .ok (.iload_n 3, 1) := by decide +kernel
theorem dL_law_844 : decode cL_law 844 = .ok (.iconst 2, 1) := by decide +kernel
theorem dL_law_845 : decode cL_law 845 = .ok (.iadd, 1) := by decide +kernel
theorem dL_law_846 : decode cL_law 846 = .ok (.iaload, 1) := by decide +kernel
theorem dL_law_847 : decode cL_law 847 = .ok (.aload_n 0, 1) := by decide +kernel
theorem dL_law_848 : decode cL_law 848 = .ok (.iload_n 3, 1) := by decide +kernel
theorem dL_law_849 : decode cL_law 849 = .ok (.iconst 3, 1) := by decide +kernel
theorem dL_law_850 : decode cL_law 850 = .ok (.iadd, 1) := by decide +kernel
theorem dL_law_851 : decode cL_law 851 = .ok (.iaload, 1) := by decide +kernel
theorem dL_law_852 : decode cL_law 852 = .ok (.invokevirtual 95, 3) := by decide +kernel
theorem dL_law_855 : decode cL_law 855 = .ok (.if_icmp .eq 530, 3) := by decide +kernel
theorem dL_law_858 : decode cL_law 858 = .ok (.iconst 0, 1) := by decide +kernel
theorem dL_law_859 : decode cL_law 859 = .ok (.ireturn, 1) := by decide +kernel
theorem dL_law_860 : decode cL_law 860 = .ok (.aload_n 1, 1) := by decide +kernel
theorem dL_law_861 : decode cL_law 861 = .ok (.aload_n 0, 1) := by decide +kernel
theorem dL_law_862 : decode cL_law 862 = .ok (.iload_n 3, 1) := by decide +kernel
theorem dL_law_863 : decode cL_law 863 = .ok (.iconst 1, 1) := by decide +kernel
theorem dL_law_864 : decode cL_law 864 = .ok (.iadd, 1) := by decide +kernel
theorem dL_law_865 : decode cL_law 865 = .ok (.iaload, 1) := by decide +kernel
theorem dL_law_866 : decode cL_law 866 = .ok (.aload_n 0, 1) := by decide +kernel
theorem dL_law_867 : decode cL_law 867 = .ok (.iload_n 3, 1) := by decide +kernel
theorem dL_law_868 : decode cL_law 868 = .ok (.iconst 2, 1) := by decide +kernel
theorem dL_law_869 : decode cL_law 869 = .ok (.iadd, 1) := by decide +kernel
theorem dL_law_870 : decode cL_law 870 = .ok (.iaload, 1) := by decide +kernel
theorem dL_law_871 : decode cL_law 871 = .ok (.invokevirtual 96, 3) := by decide +kernel
theorem dL_law_874 : decode cL_law 874 = .ok (.aload_n 2, 1) := by decide +kernel
theorem dL_law_875 : decode cL_law 875 = .ok (.aload_n 0, 1) := by decide +kernel
theorem dL_law_876 : decode cL_law 876 = .ok (.iload_n 3, 1) := by decide +kernel
theorem dL_law_877 : decode cL_law 877 = .ok (.iconst 1, 1) := by decide +kernel
theorem dL_law_878 : decode cL_law 878 = .ok (.iadd, 1) := by decide +kernel
theorem dL_law_879 : decode cL_law 879 = .ok (.iaload, 1) := by decide +kernel
theorem dL_law_880 : decode cL_law 880 = .ok (.aload_n 0, 1) := by decide +kernel
theorem dL_law_881 : decode cL_law 881 = .ok (.iload_n 3, 1) := by decide +kernel
theorem dL_law_882 : decode cL_law 882 = .ok (.iconst 2, 1) := by decide +kernel
theorem dL_law_883 : decode cL_law 883 = .ok (.iadd, 1) := by decide +kernel
theorem dL_law_884 : decode cL_law 884 = .ok (.iaload, 1) := by decide +kernel
theorem dL_law_885 : decode cL_law 885 = .ok (.invokevirtual 99, 3) := by decide +kernel
theorem dL_law_888 : decode cL_law 888 = .ok (.if_icmp .eq 497, 3) := by decide +kernel
theorem dL_law_891 : decode cL_law 891 = .ok (.iconst 0, 1) := by decide +kernel
theorem dL_law_892 : decode cL_law 892 = .ok (.ireturn, 1) := by decide +kernel
theorem dL_law_893 : decode cL_law 893 = .ok (.aload_n 1, 1) := by decide +kernel
theorem dL_law_894 : decode cL_law 894 = .ok (.aload_n 0, 1) := by decide +kernel
theorem dL_law_895 : decode cL_law 895 = .ok (.iload_n 3, 1) := by decide +kernel
theorem dL_law_896 : decode cL_law 896 = .ok (.iconst 1, 1) := by decide +kernel
theorem dL_law_897 : decode cL_law 897 = .ok (.iadd, 1) := by decide +kernel
theorem dL_law_898 : decode cL_law 898 = .ok (.iaload, 1) := by decide +kernel
theorem dL_law_899 : decode cL_law 899 = .ok (.aload_n 0, 1) := by decide +kernel
theorem dL_law_900 : decode cL_law 900 = .ok (.iload_n 3, 1) := by decide +kernel
theorem dL_law_901 : decode cL_law 901 = .ok (.iconst 2, 1) := by decide +kernel
theorem dL_law_902 : decode cL_law 902 = .ok (.iadd, 1) := by decide +kernel
theorem dL_law_903 : decode cL_law 903 = .ok (.iaload, 1) := by decide +kernel
theorem dL_law_904 : decode cL_law 904 = .ok (.aload_n 0, 1) := by decide +kernel
theorem dL_law_905 : decode cL_law 905 = .ok (.iload_n 3, 1) := by decide +kernel
theorem dL_law_906 : decode cL_law 906 = .ok (.iconst 3, 1) := by decide +kernel
theorem dL_law_907 : decode cL_law 907 = .ok (.iadd, 1) := by decide +kernel
theorem dL_law_908 : decode cL_law 908 = .ok (.iaload, 1) := by decide +kernel
theorem dL_law_909 : decode cL_law 909 = .ok (.invokevirtual 100, 3) := by decide +kernel
theorem dL_law_912 : decode cL_law 912 = .ok (.aload_n 2, 1) := by decide +kernel
theorem dL_law_913 : decode cL_law 913 = .ok (.aload_n 0, 1) := by decide +kernel
theorem dL_law_914 : decode cL_law 914 = .ok (.iload_n 3, 1) := by decide +kernel
theorem dL_law_915 : decode cL_law 915 = .ok (.iconst 1, 1) := by decide +kernel
theorem dL_law_916 : decode cL_law 916 = .ok (.iadd, 1) := by decide +kernel
theorem dL_law_917 : decode cL_law 917 = .ok (.iaload, 1) := by decide +kernel
theorem dL_law_918 : decode cL_law 918 = .ok (.aload_n 0, 1) := by decide +kernel
theorem dL_law_919 : decode cL_law 919 = .ok (.iload_n 3, 1) := by decide +kernel
theorem dL_law_920 : decode cL_law 920 = .ok (.iconst 2, 1) := by decide +kernel
theorem dL_law_921 : decode cL_law 921 = .ok (.iadd, 1) := by decide +kernel
theorem dL_law_922 : decode cL_law 922 = .ok (.iaload, 1) := by decide +kernel
theorem dL_law_923 : decode cL_law 923 = .ok (.aload_n 0, 1) := by decide +kernel
theorem dL_law_924 : decode cL_law 924 = .ok (.iload_n 3, 1) := by decide +kernel
theorem dL_law_925 : decode cL_law 925 = .ok (.iconst 3, 1) := by decide +kernel
theorem dL_law_926 : decode cL_law 926 = .ok (.iadd, 1) := by decide +kernel
theorem dL_law_927 : decode cL_law 927 = .ok (.iaload, 1) := by decide +kernel
theorem dL_law_928 : decode cL_law 928 = .ok (.invokevirtual 103, 3) := by decide +kernel
theorem dL_law_931 : decode cL_law 931 = .ok (.if_icmp .eq 454, 3) := by decide +kernel
theorem dL_law_934 : decode cL_law 934 = .ok (.iconst 0, 1) := by decide +kernel
theorem dL_law_935 : decode cL_law 935 = .ok (.ireturn, 1) := by decide +kernel
theorem dL_law_936 : decode cL_law 936 = .ok (.aload_n 1, 1) := by decide +kernel
theorem dL_law_937 : decode cL_law 937 = .ok (.aload_n 0, 1) := by decide +kernel
theorem dL_law_938 : decode cL_law 938 = .ok (.iload_n 3, 1) := by decide +kernel
theorem dL_law_939 : decode cL_law 939 = .ok (.iconst 1, 1) := by decide +kernel
theorem dL_law_940 : decode cL_law 940 = .ok (.iadd, 1) := by decide +kernel
theorem dL_law_941 : decode cL_law 941 = .ok (.iaload, 1) := by decide +kernel
theorem dL_law_942 : decode cL_law 942 = .ok (.invokevirtual 104, 3) := by decide +kernel
theorem dL_law_945 : decode cL_law 945 = .ok (.aload_n 2, 1) := by decide +kernel
theorem dL_law_946 : decode cL_law 946 = .ok (.aload_n 0, 1) := by decide +kernel
theorem dL_law_947 : decode cL_law 947 = .ok (.iload_n 3, 1) := by decide +kernel
theorem dL_law_948 : decode cL_law 948 = .ok (.iconst 1, 1) := by decide +kernel
theorem dL_law_949 : decode cL_law 949 = .ok (.iadd, 1) := by decide +kernel
theorem dL_law_950 : decode cL_law 950 = .ok (.iaload, 1) := by decide +kernel
theorem dL_law_951 : decode cL_law 951 = .ok (.invokevirtual 107, 3) := by decide +kernel
theorem dL_law_954 : decode cL_law 954 = .ok (.if_icmp .eq 431, 3) := by decide +kernel
theorem dL_law_957 : decode cL_law 957 = .ok (.iconst 0, 1) := by decide +kernel
theorem dL_law_958 : decode cL_law 958 = .ok (.ireturn, 1) := by decide +kernel
theorem dL_law_959 : decode cL_law 959 = .ok (.aload_n 1, 1) := by decide +kernel
theorem dL_law_960 : decode cL_law 960 = .ok (.invokevirtual 108, 3) := by decide +kernel
theorem dL_law_963 : decode cL_law 963 = .ok (.aload_n 2, 1) := by decide +kernel
theorem dL_law_964 : decode cL_law 964 = .ok (.invokevirtual 112, 3) := by decide +kernel
theorem dL_law_967 : decode cL_law 967 = .ok (.if_icmp .eq 418, 3) := by decide +kernel
theorem dL_law_970 : decode cL_law 970 = .ok (.iconst 0, 1) := by decide +kernel
theorem dL_law_971 : decode cL_law 971 = .ok (.ireturn, 1) := by decide +kernel
theorem dL_law_972 : decode cL_law 972 = .ok (.aload_n 1, 1) := by decide +kernel
theorem dL_law_973 : decode cL_law 973 = .ok (.aload_n 0, 1) := by decide +kernel
theorem dL_law_974 : decode cL_law 974 = .ok (.iload_n 3, 1) := by decide +kernel
theorem dL_law_975 : decode cL_law 975 = .ok (.iconst 1, 1) := by decide +kernel
theorem dL_law_976 : decode cL_law 976 = .ok (.iadd, 1) := by decide +kernel
theorem dL_law_977 : decode cL_law 977 = .ok (.iaload, 1) := by decide +kernel
theorem dL_law_978 : decode cL_law 978 = .ok (.aload_n 0, 1) := by decide +kernel
theorem dL_law_979 : decode cL_law 979 = .ok (.iload_n 3, 1) := by decide +kernel
theorem dL_law_980 : decode cL_law 980 = .ok (.iconst 2, 1) := by decide +kernel
theorem dL_law_981 : decode cL_law 981 = .ok (.iadd, 1) := by decide +kernel
theorem dL_law_982 : decode cL_law 982 = .ok (.iaload, 1) := by decide +kernel
theorem dL_law_983 : decode cL_law 983 = .ok (.invokevirtual 113, 3) := by decide +kernel
theorem dL_law_986 : decode cL_law 986 = .ok (.aload_n 2, 1) := by decide +kernel
theorem dL_law_987 : decode cL_law 987 = .ok (.aload_n 0, 1) := by decide +kernel
theorem dL_law_988 : decode cL_law 988 = .ok (.iload_n 3, 1) := by decide +kernel
theorem dL_law_989 : decode cL_law 989 = .ok (.iconst 1, 1) := by decide +kernel
theorem dL_law_990 : decode cL_law 990 = .ok (.iadd, 1) := by decide +kernel
theorem dL_law_991 : decode cL_law 991 = .ok (.iaload, 1) := by decide +kernel
theorem dL_law_992 : decode cL_law 992 = .ok (.aload_n 0, 1) := by decide +kernel
theorem dL_law_993 : decode cL_law 993 = .ok (.iload_n 3, 1) := by decide +kernel
theorem dL_law_994 : decode cL_law 994 = .ok (.iconst 2, 1) := by decide +kernel
theorem dL_law_995 : decode cL_law 995 = .ok (.iadd, 1) := by decide +kernel
theorem dL_law_996 : decode cL_law 996 = .ok (.iaload, 1) := by decide +kernel
theorem dL_law_997 : decode cL_law 997 = .ok (.invokevirtual 116, 3) := by decide +kernel
theorem dL_law_1000 : decode cL_law 1000 = .ok (.if_icmp .eq 385, 3) := by decide +kernel
theorem dL_law_1003 : decode cL_law 1003 = .ok (.iconst 0, 1) := by decide +kernel
theorem dL_law_1004 : decode cL_law 1004 = .ok (.ireturn, 1) := by decide +kernel
theorem dL_law_1005 : decode cL_law 1005 = .ok (.aload_n 1, 1) := by decide +kernel
theorem dL_law_1006 : decode cL_law 1006 = .ok (.invokevirtual 117, 3) := by decide +kernel
theorem dL_law_1009 : decode cL_law 1009 = .ok (.aload_n 2, 1) := by decide +kernel
theorem dL_law_1010 : decode cL_law 1010 = .ok (.invokevirtual 120, 3) := by decide +kernel
theorem dL_law_1013 : decode cL_law 1013 = .ok (.if_icmp .eq 372, 3) := by decide +kernel
theorem dL_law_1016 : decode cL_law 1016 = .ok (.iconst 0, 1) := by decide +kernel
theorem dL_law_1017 : decode cL_law 1017 = .ok (.ireturn, 1) := by decide +kernel
theorem dL_law_1018 : decode cL_law 1018 = .ok (.aload_n 1, 1) := by decide +kernel
theorem dL_law_1019 : decode cL_law 1019 = .ok (.invokevirtual 121, 3) := by decide +kernel
theorem dL_law_1022 : decode cL_law 1022 = .ok (.aload_n 2, 1) := by decide +kernel
theorem dL_law_1023 : decode cL_law 1023 = .ok (.invokevirtual 124, 3) := by decide +kernel
theorem dL_law_1026 : decode cL_law 1026 = .ok (.if_icmp .eq 359, 3) := by decide +kernel
theorem dL_law_1029 : decode cL_law 1029 = .ok (.iconst 0, 1) := by decide +kernel
theorem dL_law_1030 : decode cL_law 1030 = .ok (.ireturn, 1) := by decide +kernel
theorem dL_law_1031 : decode cL_law 1031 = .ok (.aload_n 1, 1) := by decide +kernel
theorem dL_law_1032 : decode cL_law 1032 = .ok (.aload_n 0, 1) := by decide +kernel
theorem dL_law_1033 : decode cL_law 1033 = .ok (.iload_n 3, 1) := by decide +kernel
theorem dL_law_1034 : decode cL_law 1034 = .ok (.iconst 1, 1) := by decide +kernel
theorem dL_law_1035 : decode cL_law 1035 = .ok (.iadd, 1) := by decide +kernel
theorem dL_law_1036 : decode cL_law 1036 = .ok (.iaload, 1) := by decide +kernel
theorem dL_law_1037 : decode cL_law 1037 = .ok (.aload_n 0, 1) := by decide +kernel
theorem dL_law_1038 : decode cL_law 1038 = .ok (.iload_n 3, 1) := by decide +kernel
theorem dL_law_1039 : decode cL_law 1039 = .ok (.iconst 2, 1) := by decide +kernel
theorem dL_law_1040 : decode cL_law 1040 = .ok (.iadd, 1) := by decide +kernel
theorem dL_law_1041 : decode cL_law 1041 = .ok (.iaload, 1) := by decide +kernel
theorem dL_law_1042 : decode cL_law 1042 = .ok (.aload_n 0, 1) := by decide +kernel
theorem dL_law_1043 : decode cL_law 1043 = .ok (.iload_n 3, 1) := by decide +kernel
theorem dL_law_1044 : decode cL_law 1044 = .ok (.iconst 3, 1) := by decide +kernel
theorem dL_law_1045 : decode cL_law 1045 = .ok (.iadd, 1) := by decide +kernel
theorem dL_law_1046 : decode cL_law 1046 = .ok (.iaload, 1) := by decide +kernel
theorem dL_law_1047 : decode cL_law 1047 = .ok (.invokevirtual 125, 3) := by decide +kernel
theorem dL_law_1050 : decode cL_law 1050 = .ok (.aload_n 2, 1) := by decide +kernel
theorem dL_law_1051 : decode cL_law 1051 = .ok (.aload_n 0, 1) := by decide +kernel
theorem dL_law_1052 : decode cL_law 1052 = .ok (.iload_n 3, 1) := by decide +kernel
theorem dL_law_1053 : decode cL_law 1053 = .ok (.iconst 1, 1) := by decide +kernel
theorem dL_law_1054 : decode cL_law 1054 = .ok (.iadd, 1) := by decide +kernel
theorem dL_law_1055 : decode cL_law 1055 = .ok (.iaload, 1) := by decide +kernel
theorem dL_law_1056 : decode cL_law 1056 = .ok (.aload_n 0, 1) := by decide +kernel
theorem dL_law_1057 : decode cL_law 1057 = .ok (.iload_n 3, 1) := by decide +kernel
theorem dL_law_1058 : decode cL_law 1058 = .ok (.iconst 2, 1) := by decide +kernel
theorem dL_law_1059 : decode cL_law 1059 = .ok (.iadd, 1) := by decide +kernel
theorem dL_law_1060 : decode cL_law 1060 = .ok (.iaload, 1) := by decide +kernel
theorem dL_law_1061 : decode cL_law 1061 = .ok (.aload_n 0, 1) := by decide +kernel
theorem dL_law_1062 : decode cL_law 1062 = .ok (.iload_n 3, 1) := by decide +kernel
theorem dL_law_1063 : decode cL_law 1063 = .ok (.iconst 3, 1) := by decide +kernel
theorem dL_law_1064 : decode cL_law 1064 = .ok (.iadd, 1) := by decide +kernel
theorem dL_law_1065 : decode cL_law 1065 = .ok (.iaload, 1) := by decide +kernel
theorem dL_law_1066 : decode cL_law 1066 = .ok (.invokevirtual 128, 3) := by decide +kernel
theorem dL_law_1069 : decode cL_law 1069 = .ok (.if_icmp .eq 316, 3) := by decide +kernel
theorem dL_law_1072 : decode cL_law 1072 = .ok (.iconst 0, 1) := by decide +kernel
theorem dL_law_1073 : decode cL_law 1073 = .ok (.ireturn, 1) := by decide +kernel
theorem dL_law_1074 : decode cL_law 1074 = .ok (.aload_n 1, 1) := by decide +kernel
theorem dL_law_1075 : decode cL_law 1075 = .ok (.aload_n 0, 1) := by decide +kernel
theorem dL_law_1076 : decode cL_law 1076 = .ok (.iload_n 3, 1) := by decide +kernel
theorem dL_law_1077 : decode cL_law 1077 = .ok (.iconst 1, 1) := by decide +kernel
theorem dL_law_1078 : decode cL_law 1078 = .ok (.iadd, 1) := by decide +kernel
theorem dL_law_1079 : decode cL_law 1079 = .ok (.iaload, 1) := by decide +kernel
theorem dL_law_1080 : decode cL_law 1080 = .ok (.aload_n 0, 1) := by decide +kernel
theorem dL_law_1081 : decode cL_law 1081 = .ok (.iload_n 3, 1) := by decide +kernel
theorem dL_law_1082 : decode cL_law 1082 = .ok (.iconst 2, 1) := by decide +kernel
theorem dL_law_1083 : decode cL_law 1083 = .ok (.iadd, 1) := by decide +kernel
theorem dL_law_1084 : decode cL_law 1084 = .ok (.iaload, 1) := by decide +kernel
theorem dL_law_1085 : decode cL_law 1085 = .ok (.aload_n 0, 1) := by decide +kernel
theorem dL_law_1086 : decode cL_law 1086 = .ok (.iload_n 3, 1) := by decide +kernel
theorem dL_law_1087 : decode cL_law 1087 = .ok (.iconst 3, 1) := by decide +kernel
theorem dL_law_1088 : decode cL_law 1088 = .ok (.iadd, 1) := by decide +kernel
theorem dL_law_1089 : decode cL_law 1089 = .ok (.iaload, 1) := by decide +kernel
theorem dL_law_1090 : decode cL_law 1090 = .ok (.i2l, 1) := by decide +kernel
theorem dL_law_1091 : decode cL_law 1091 = .ok (.bipush 32, 2) := by decide +kernel
theorem dL_law_1093 : decode cL_law 1093 = .ok (.lshl, 1) := by decide +kernel
theorem dL_law_1094 : decode cL_law 1094 = .ok (.aload_n 0, 1) := by decide +kernel
theorem dL_law_1095 : decode cL_law 1095 = .ok (.iload_n 3, 1) := by decide +kernel
theorem dL_law_1096 : decode cL_law 1096 = .ok (.iconst 4, 1) := by decide +kernel
theorem dL_law_1097 : decode cL_law 1097 = .ok (.iadd, 1) := by decide +kernel
theorem dL_law_1098 : decode cL_law 1098 = .ok (.iaload, 1) := by decide +kernel
theorem dL_law_1099 : decode cL_law 1099 = .ok (.i2l, 1) := by decide +kernel
theorem dL_law_1100 : decode cL_law 1100 = .ok (.ldc2_w 129, 3) := by decide +kernel
theorem dL_law_1103 : decode cL_law 1103 = .ok (.land, 1) := by decide +kernel
theorem dL_law_1104 : decode cL_law 1104 = .ok (.lor, 1) := by decide +kernel
theorem dL_law_1105 : decode cL_law 1105 = .ok (.invokevirtual 131, 3) := by decide +kernel
theorem dL_law_1108 : decode cL_law 1108 = .ok (.aload_n 2, 1) := by decide +kernel
theorem dL_law_1109 : decode cL_law 1109 = .ok (.aload_n 0, 1) := by decide +kernel
theorem dL_law_1110 : decode cL_law 1110 = .ok (.iload_n 3, 1) := by decide +kernel
theorem dL_law_1111 : decode cL_law 1111 = .ok (.iconst 1, 1) := by decide +kernel
theorem dL_law_1112 : decode cL_law 1112 = .ok (.iadd, 1) := by decide +kernel
theorem dL_law_1113 : decode cL_law 1113 = .ok (.iaload, 1) := by decide +kernel
theorem dL_law_1114 : decode cL_law 1114 = .ok (.aload_n 0, 1) := by decide +kernel
theorem dL_law_1115 : decode cL_law 1115 = .ok (.iload_n 3, 1) := by decide +kernel
theorem dL_law_1116 : decode cL_law 1116 = .ok (.iconst 2, 1) := by decide +kernel
theorem dL_law_1117 : decode cL_law 1117 = .ok (.iadd, 1) := by decide +kernel
theorem dL_law_1118 : decode cL_law 1118 = .ok (.iaload, 1) := by decide +kernel
theorem dL_law_1119 : decode cL_law 1119 = .ok (.aload_n 0, 1) := by decide +kernel
theorem dL_law_1120 : decode cL_law 1120 = .ok (.iload_n 3, 1) := by decide +kernel
theorem dL_law_1121 : decode cL_law 1121 = .ok (.iconst 3, 1) := by decide +kernel
theorem dL_law_1122 : decode cL_law 1122 = .ok (.iadd, 1) := by decide +kernel
theorem dL_law_1123 : decode cL_law 1123 = .ok (.iaload, 1) := by decide +kernel
theorem dL_law_1124 : decode cL_law 1124 = .ok (.i2l, 1) := by decide +kernel
theorem dL_law_1125 : decode cL_law 1125 = .ok (.bipush 32, 2) := by decide +kernel
theorem dL_law_1127 : decode cL_law 1127 = .ok (.lshl, 1) := by decide +kernel
theorem dL_law_1128 : decode cL_law 1128 = .ok (.aload_n 0, 1) := by decide +kernel
theorem dL_law_1129 : decode cL_law 1129 = .ok (.iload_n 3, 1) := by decide +kernel
theorem dL_law_1130 : decode cL_law 1130 = .ok (.iconst 4, 1) := by decide +kernel
theorem dL_law_1131 : decode cL_law 1131 = .ok (.iadd, 1) := by decide +kernel
theorem dL_law_1132 : decode cL_law 1132 = .ok (.iaload, 1) := by decide +kernel
theorem dL_law_1133 : decode cL_law 1133 = .ok (.i2l, 1) := by decide +kernel
theorem dL_law_1134 : decode cL_law 1134 = .ok (.ldc2_w 129, 3) := by decide +kernel
theorem dL_law_1137 : decode cL_law 1137 = .ok (.land, 1) := by decide +kernel
theorem dL_law_1138 : decode cL_law 1138 = .ok (.lor, 1) := by decide +kernel
theorem dL_law_1139 : decode cL_law 1139 = .ok (.invokevirtual 135, 3) := by decide +kernel
theorem dL_law_1142 : decode cL_law 1142 = .ok (.lcmp, 1) := by decide +kernel
theorem dL_law_1143 : decode cL_law 1143 = .ok (.ifCond .eq 242, 3) := by decide +kernel
theorem dL_law_1146 : decode cL_law 1146 = .ok (.iconst 0, 1) := by decide +kernel
theorem dL_law_1147 : decode cL_law 1147 = .ok (.ireturn, 1) := by decide +kernel
theorem dL_law_1148 : decode cL_law 1148 = .ok (.aload_n 1, 1) := by decide +kernel
theorem dL_law_1149 : decode cL_law 1149 = .ok (.aload_n 0, 1) := by decide +kernel
theorem dL_law_1150 : decode cL_law 1150 = .ok (.iload_n 3, 1) := by decide +kernel
theorem dL_law_1151 : decode cL_law 1151 = .ok (.iconst 1, 1) := by decide +kernel
theorem dL_law_1152 : decode cL_law 1152 = .ok (.iadd, 1) := by decide +kernel
theorem dL_law_1153 : decode cL_law 1153 = .ok (.iaload, 1) := by decide +kernel
theorem dL_law_1154 : decode cL_law 1154 = .ok (.aload_n 0, 1) := by decide +kernel
theorem dL_law_1155 : decode cL_law 1155 = .ok (.iload_n 3, 1) := by decide +kernel
theorem dL_law_1156 : decode cL_law 1156 = .ok (.iconst 2, 1) := by decide +kernel
theorem dL_law_1157 : decode cL_law 1157 = .ok (.iadd, 1) := by decide +kernel
theorem dL_law_1158 : decode cL_law 1158 = .ok (.iaload, 1) := by decide +kernel
theorem dL_law_1159 : decode cL_law 1159 = .ok (.aload_n 0, 1) := by decide +kernel
theorem dL_law_1160 : decode cL_law 1160 = .ok (.iload_n 3, 1) := by decide +kernel
theorem dL_law_1161 : decode cL_law 1161 = .ok (.iconst 3, 1) := by decide +kernel
theorem dL_law_1162 : decode cL_law 1162 = .ok (.iadd, 1) := by decide +kernel
theorem dL_law_1163 : decode cL_law 1163 = .ok (.iaload, 1) := by decide +kernel
theorem dL_law_1164 : decode cL_law 1164 = .ok (.aload_n 0, 1) := by decide +kernel
theorem dL_law_1165 : decode cL_law 1165 = .ok (.iload_n 3, 1) := by decide +kernel
theorem dL_law_1166 : decode cL_law 1166 = .ok (.iconst 4, 1) := by decide +kernel
theorem dL_law_1167 : decode cL_law 1167 = .ok (.iadd, 1) := by decide +kernel
theorem dL_law_1168 : decode cL_law 1168 = .ok (.iaload, 1) := by decide +kernel
theorem dL_law_1169 : decode cL_law 1169 = .ok (.aload_n 0, 1) := by decide +kernel
theorem dL_law_1170 : decode cL_law 1170 = .ok (.iload_n 3, 1) := by decide +kernel
theorem dL_law_1171 : decode cL_law 1171 = .ok (.iconst 5, 1) := by decide +kernel
theorem dL_law_1172 : decode cL_law 1172 = .ok (.iadd, 1) := by decide +kernel
theorem dL_law_1173 : decode cL_law 1173 = .ok (.iaload, 1) := by decide +kernel
theorem dL_law_1174 : decode cL_law 1174 = .ok (.invokevirtual 136, 3) := by decide +kernel
theorem dL_law_1177 : decode cL_law 1177 = .ok (.aload_n 2, 1) := by decide +kernel
theorem dL_law_1178 : decode cL_law 1178 = .ok (.aload_n 0, 1) := by decide +kernel
theorem dL_law_1179 : decode cL_law 1179 = .ok (.iload_n 3, 1) := by decide +kernel
theorem dL_law_1180 : decode cL_law 1180 = .ok (.iconst 1, 1) := by decide +kernel
theorem dL_law_1181 : decode cL_law 1181 = .ok (.iadd, 1) := by decide +kernel
theorem dL_law_1182 : decode cL_law 1182 = .ok (.iaload, 1) := by decide +kernel
theorem dL_law_1183 : decode cL_law 1183 = .ok (.aload_n 0, 1) := by decide +kernel
theorem dL_law_1184 : decode cL_law 1184 = .ok (.iload_n 3, 1) := by decide +kernel
theorem dL_law_1185 : decode cL_law 1185 = .ok (.iconst 2, 1) := by decide +kernel
theorem dL_law_1186 : decode cL_law 1186 = .ok (.iadd, 1) := by decide +kernel
theorem dL_law_1187 : decode cL_law 1187 = .ok (.iaload, 1) := by decide +kernel
theorem dL_law_1188 : decode cL_law 1188 = .ok (.aload_n 0, 1) := by decide +kernel
theorem dL_law_1189 : decode cL_law 1189 = .ok (.iload_n 3, 1) := by decide +kernel
theorem dL_law_1190 : decode cL_law 1190 = .ok (.iconst 3, 1) := by decide +kernel
theorem dL_law_1191 : decode cL_law 1191 = .ok (.iadd, 1) := by decide +kernel
theorem dL_law_1192 : decode cL_law 1192 = .ok (.iaload, 1) := by decide +kernel
theorem dL_law_1193 : decode cL_law 1193 = .ok (.aload_n 0, 1) := by decide +kernel
theorem dL_law_1194 : decode cL_law 1194 = .ok (.iload_n 3, 1) := by decide +kernel
theorem dL_law_1195 : decode cL_law 1195 = .ok (.iconst 4, 1) := by decide +kernel
theorem dL_law_1196 : decode cL_law 1196 = .ok (.iadd, 1) := by decide +kernel
theorem dL_law_1197 : decode cL_law 1197 = .ok (.iaload, 1) := by decide +kernel
theorem dL_law_1198 : decode cL_law 1198 = .ok (.aload_n 0, 1) := by decide +kernel
theorem dL_law_1199 : decode cL_law 1199 = .ok (.iload_n 3, 1) := by decide +kernel
theorem dL_law_1200 : decode cL_law 1200 = .ok (.iconst 5, 1) := by decide +kernel
theorem dL_law_1201 : decode cL_law 1201 = .ok (.iadd, 1) := by decide +kernel
theorem dL_law_1202 : decode cL_law 1202 = .ok (.iaload, 1) := by decide +kernel
theorem dL_law_1203 : decode cL_law 1203 = .ok (.invokevirtual 140, 3) := by decide +kernel
theorem dL_law_1206 : decode cL_law 1206 = .ok (.if_icmp .eq 179, 3) := by decide +kernel
theorem dL_law_1209 : decode cL_law 1209 = .ok (.iconst 0, 1) := by decide +kernel
theorem dL_law_1210 : decode cL_law 1210 = .ok (.ireturn, 1) := by decide +kernel
theorem dL_law_1211 : decode cL_law 1211 = .ok (.aload_n 1, 1) := by decide +kernel
theorem dL_law_1212 : decode cL_law 1212 = .ok (.aload_n 0, 1) := by decide +kernel
theorem dL_law_1213 : decode cL_law 1213 = .ok (.iload_n 3, 1) := by decide +kernel
theorem dL_law_1214 : decode cL_law 1214 = .ok (.iconst 1, 1) := by decide +kernel
theorem dL_law_1215 : decode cL_law 1215 = .ok (.iadd, 1) := by decide +kernel
theorem dL_law_1216 : decode cL_law 1216 = .ok (.iaload, 1) := by decide +kernel
theorem dL_law_1217 : decode cL_law 1217 = .ok (.invokevirtual 141, 3) := by decide +kernel
theorem dL_law_1220 : decode cL_law 1220 = .ok (.aload_n 2, 1) := by decide +kernel
theorem dL_law_1221 : decode cL_law 1221 = .ok (.aload_n 0, 1) := by decide +kernel
theorem dL_law_1222 : decode cL_law 1222 = .ok (.iload_n 3, 1) := by decide +kernel
theorem dL_law_1223 : decode cL_law 1223 = .ok (.iconst 1, 1) := by decide +kernel
theorem dL_law_1224 : decode cL_law 1224 = .ok (.iadd, 1) := by decide +kernel
theorem dL_law_1225 : decode cL_law 1225 = .ok (.iaload, 1) := by decide +kernel
theorem dL_law_1226 : decode cL_law 1226 = .ok (.invokevirtual 144, 3) := by decide +kernel
theorem dL_law_1229 : decode cL_law 1229 = .ok (.if_icmp .eq 156, 3) := by decide +kernel
theorem dL_law_1232 : decode cL_law 1232 = .ok (.iconst 0, 1) := by decide +kernel
theorem dL_law_1233 : decode cL_law 1233 = .ok (.ireturn, 1) := by decide +kernel
theorem dL_law_1234 : decode cL_law 1234 = .ok (.aload_n 1, 1) := by decide +kernel
theorem dL_law_1235 : decode cL_law 1235 = .ok (.aload_n 0, 1) := by decide +kernel
theorem dL_law_1236 : decode cL_law 1236 = .ok (.iload_n 3, 1) := by decide +kernel
theorem dL_law_1237 : decode cL_law 1237 = .ok (.iconst 1, 1) := by decide +kernel
theorem dL_law_1238 : decode cL_law 1238 = .ok (.iadd, 1) := by decide +kernel
theorem dL_law_1239 : decode cL_law 1239 = .ok (.iaload, 1) := by decide +kernel
theorem dL_law_1240 : decode cL_law 1240 = .ok (.aload_n 0, 1) := by decide +kernel
theorem dL_law_1241 : decode cL_law 1241 = .ok (.iload_n 3, 1) := by decide +kernel
theorem dL_law_1242 : decode cL_law 1242 = .ok (.iconst 2, 1) := by decide +kernel
theorem dL_law_1243 : decode cL_law 1243 = .ok (.iadd, 1) := by decide +kernel
theorem dL_law_1244 : decode cL_law 1244 = .ok (.iaload, 1) := by decide +kernel
theorem dL_law_1245 : decode cL_law 1245 = .ok (.invokevirtual 145, 3) := by decide +kernel
theorem dL_law_1248 : decode cL_law 1248 = .ok (.aload_n 2, 1) := by decide +kernel
theorem dL_law_1249 : decode cL_law 1249 = .ok (.aload_n 0, 1) := by decide +kernel
theorem dL_law_1250 : decode cL_law 1250 = .ok (.iload_n 3, 1) := by decide +kernel
theorem dL_law_1251 : decode cL_law 1251 = .ok (.iconst 1, 1) := by decide +kernel
theorem dL_law_1252 : decode cL_law 1252 = .ok (.iadd, 1) := by decide +kernel
theorem dL_law_1253 : decode cL_law 1253 = .ok (.iaload, 1) := by decide +kernel
theorem dL_law_1254 : decode cL_law 1254 = .ok (.aload_n 0, 1) := by decide +kernel
theorem dL_law_1255 : decode cL_law 1255 = .ok (.iload_n 3, 1) := by decide +kernel
theorem dL_law_1256 : decode cL_law 1256 = .ok (.iconst 2, 1) := by decide +kernel
theorem dL_law_1257 : decode cL_law 1257 = .ok (.iadd, 1) := by decide +kernel
theorem dL_law_1258 : decode cL_law 1258 = .ok (.iaload, 1) := by decide +kernel
theorem dL_law_1259 : decode cL_law 1259 = .ok (.invokevirtual 148, 3) := by decide +kernel
theorem dL_law_1262 : decode cL_law 1262 = .ok (.if_icmp .eq 123, 3) := by decide +kernel
theorem dL_law_1265 : decode cL_law 1265 = .ok (.iconst 0, 1) := by decide +kernel
theorem dL_law_1266 : decode cL_law 1266 = .ok (.ireturn, 1) := by decide +kernel
theorem dL_law_1267 : decode cL_law 1267 = .ok (.aload_n 1, 1) := by decide +kernel
theorem dL_law_1268 : decode cL_law 1268 = .ok (.aload_n 0, 1) := by decide +kernel
theorem dL_law_1269 : decode cL_law 1269 = .ok (.iload_n 3, 1) := by decide +kernel
theorem dL_law_1270 : decode cL_law 1270 = .ok (.iconst 1, 1) := by decide +kernel
theorem dL_law_1271 : decode cL_law 1271 = .ok (.iadd, 1) := by decide +kernel
theorem dL_law_1272 : decode cL_law 1272 = .ok (.iaload, 1) := by decide +kernel
theorem dL_law_1273 : decode cL_law 1273 = .ok (.aload_n 0, 1) := by decide +kernel
theorem dL_law_1274 : decode cL_law 1274 = .ok (.iload_n 3, 1) := by decide +kernel
theorem dL_law_1275 : decode cL_law 1275 = .ok (.iconst 2, 1) := by decide +kernel
theorem dL_law_1276 : decode cL_law 1276 = .ok (.iadd, 1) := by decide +kernel
theorem dL_law_1277 : decode cL_law 1277 = .ok (.iaload, 1) := by decide +kernel
theorem dL_law_1278 : decode cL_law 1278 = .ok (.invokevirtual 149, 3) := by decide +kernel
theorem dL_law_1281 : decode cL_law 1281 = .ok (.aload_n 2, 1) := by decide +kernel
theorem dL_law_1282 : decode cL_law 1282 = .ok (.aload_n 0, 1) := by decide +kernel
theorem dL_law_1283 : decode cL_law 1283 = .ok (.iload_n 3, 1) := by decide +kernel
theorem dL_law_1284 : decode cL_law 1284 = .ok (.iconst 1, 1) := by decide +kernel
theorem dL_law_1285 : decode cL_law 1285 = .ok (.iadd, 1) := by decide +kernel
theorem dL_law_1286 : decode cL_law 1286 = .ok (.iaload, 1) := by decide +kernel
theorem dL_law_1287 : decode cL_law 1287 = .ok (.aload_n 0, 1) := by decide +kernel
theorem dL_law_1288 : decode cL_law 1288 = .ok (.iload_n 3, 1) := by decide +kernel
theorem dL_law_1289 : decode cL_law 1289 = .ok (.iconst 2, 1) := by decide +kernel
theorem dL_law_1290 : decode cL_law 1290 = .ok (.iadd, 1) := by decide +kernel
theorem dL_law_1291 : decode cL_law 1291 = .ok (.iaload, 1) := by decide +kernel
theorem dL_law_1292 : decode cL_law 1292 = .ok (.invokevirtual 152, 3) := by decide +kernel
theorem dL_law_1295 : decode cL_law 1295 = .ok (.if_icmp .eq 90, 3) := by decide +kernel
theorem dL_law_1298 : decode cL_law 1298 = .ok (.iconst 0, 1) := by decide +kernel
theorem dL_law_1299 : decode cL_law 1299 = .ok (.ireturn, 1) := by decide +kernel
theorem dL_law_1300 : decode cL_law 1300 = .ok (.aload_n 1, 1) := by decide +kernel
theorem dL_law_1301 : decode cL_law 1301 = .ok (.invokevirtual 153, 3) := by decide +kernel
theorem dL_law_1304 : decode cL_law 1304 = .ok (.aload_n 2, 1) := by decide +kernel
theorem dL_law_1305 : decode cL_law 1305 = .ok (.invokevirtual 156, 3) := by decide +kernel
theorem dL_law_1308 : decode cL_law 1308 = .ok (.if_icmp .eq 77, 3) := by decide +kernel
theorem dL_law_1311 : decode cL_law 1311 = .ok (.iconst 0, 1) := by decide +kernel
theorem dL_law_1312 : decode cL_law 1312 = .ok (.ireturn, 1) := by decide +kernel
theorem dL_law_1313 : decode cL_law 1313 = .ok (.aload_n 1, 1) := by decide +kernel
theorem dL_law_1314 : decode cL_law 1314 = .ok (.invokevirtual 157, 3) := by decide +kernel
theorem dL_law_1317 : decode cL_law 1317 = .ok (.aload_n 2, 1) := by decide +kernel
theorem dL_law_1318 : decode cL_law 1318 = .ok (.invokevirtual 160, 3) := by decide +kernel
theorem dL_law_1321 : decode cL_law 1321 = .ok (.if_icmp .eq 64, 3) := by decide +kernel
theorem dL_law_1324 : decode cL_law 1324 = .ok (.iconst 0, 1) := by decide +kernel
theorem dL_law_1325 : decode cL_law 1325 = .ok (.ireturn, 1) := by decide +kernel
theorem dL_law_1326 : decode cL_law 1326 = .ok (.aload_n 1, 1) := by decide +kernel
theorem dL_law_1327 : decode cL_law 1327 = .ok (.invokevirtual 161, 3) := by decide +kernel
theorem dL_law_1330 : decode cL_law 1330 = .ok (.aload_n 2, 1) := by decide +kernel
theorem dL_law_1331 : decode cL_law 1331 = .ok (.invokevirtual 164, 3) := by decide +kernel
theorem dL_law_1334 : decode cL_law 1334 = .ok (.if_icmp .eq 51, 3) := by decide +kernel
theorem dL_law_1337 : decode cL_law 1337 = .ok (.iconst 0, 1) := by decide +kernel
theorem dL_law_1338 : decode cL_law 1338 = .ok (.ireturn, 1) := by decide +kernel
theorem dL_law_1339 : decode cL_law 1339 = .ok (.aload_n 1, 1) := by decide +kernel
theorem dL_law_1340 : decode cL_law 1340 = .ok (.aload_n 0, 1) := by decide +kernel
theorem dL_law_1341 : decode cL_law 1341 = .ok (.iload_n 3, 1) := by decide +kernel
theorem dL_law_1342 : decode cL_law 1342 = .ok (.iconst 1, 1) := by decide +kernel
theorem dL_law_1343 : decode cL_law 1343 = .ok (.iadd, 1) := by decide +kernel
theorem dL_law_1344 : decode cL_law 1344 = .ok (.iaload, 1) := by decide +kernel
theorem dL_law_1345 : decode cL_law 1345 = .ok (.invokevirtual 165, 3) := by decide +kernel
theorem dL_law_1348 : decode cL_law 1348 = .ok (.aload_n 2, 1) := by decide +kernel
theorem dL_law_1349 : decode cL_law 1349 = .ok (.aload_n 0, 1) := by decide +kernel
theorem dL_law_1350 : decode cL_law 1350 = .ok (.iload_n 3, 1) := by decide +kernel
theorem dL_law_1351 : decode cL_law 1351 = .ok (.iconst 1, 1) := by decide +kernel
theorem dL_law_1352 : decode cL_law 1352 = .ok (.iadd, 1) := by decide +kernel
theorem dL_law_1353 : decode cL_law 1353 = .ok (.iaload, 1) := by decide +kernel
theorem dL_law_1354 : decode cL_law 1354 = .ok (.invokevirtual 168, 3) := by decide +kernel
theorem dL_law_1357 : decode cL_law 1357 = .ok (.if_icmp .eq 28, 3) := by decide +kernel
theorem dL_law_1360 : decode cL_law 1360 = .ok (.iconst 0, 1) := by decide +kernel
theorem dL_law_1361 : decode cL_law 1361 = .ok (.ireturn, 1) := by decide +kernel
theorem dL_law_1362 : decode cL_law 1362 = .ok (.aload_n 1, 1) := by decide +kernel
theorem dL_law_1363 : decode cL_law 1363 = .ok (.aload_n 0, 1) := by decide +kernel
theorem dL_law_1364 : decode cL_law 1364 = .ok (.iload_n 3, 1) := by decide +kernel
theorem dL_law_1365 : decode cL_law 1365 = .ok (.iconst 1, 1) := by decide +kernel
theorem dL_law_1366 : decode cL_law 1366 = .ok (.iadd, 1) := by decide +kernel
theorem dL_law_1367 : decode cL_law 1367 = .ok (.iaload, 1) := by decide +kernel
theorem dL_law_1368 : decode cL_law 1368 = .ok (.invokevirtual 169, 3) := by decide +kernel
theorem dL_law_1371 : decode cL_law 1371 = .ok (.aload_n 2, 1) := by decide +kernel
theorem dL_law_1372 : decode cL_law 1372 = .ok (.aload_n 0, 1) := by decide +kernel
theorem dL_law_1373 : decode cL_law 1373 = .ok (.iload_n 3, 1) := by decide +kernel
theorem dL_law_1374 : decode cL_law 1374 = .ok (.iconst 1, 1) := by decide +kernel
theorem dL_law_1375 : decode cL_law 1375 = .ok (.iadd, 1) := by decide +kernel
theorem dL_law_1376 : decode cL_law 1376 = .ok (.iaload, 1) := by decide +kernel
theorem dL_law_1377 : decode cL_law 1377 = .ok (.invokevirtual 172, 3) := by decide +kernel
theorem dL_law_1380 : decode cL_law 1380 = .ok (.if_icmp .eq 5, 3) := by decide +kernel
theorem dL_law_1383 : decode cL_law 1383 = .ok (.iconst 0, 1) := by decide +kernel
theorem dL_law_1384 : decode cL_law 1384 = .ok (.ireturn, 1) := by decide +kernel
theorem dL_law_1385 : decode cL_law 1385 = .ok (.iinc 3 6, 3) := by decide +kernel
theorem dL_law_1388 : decode cL_law 1388 = .ok (.goto (-1370), 3) := by decide +kernel
theorem dL_law_1391 : decode cL_law 1391 = .ok (.iconst 1, 1) := by decide +kernel
theorem dL_law_1392 : decode cL_law 1392 = .ok (.ireturn, 1) := by decide +kernel
end
section
def BIG : List Cond := lw_tbl.filter goodWord
theorem big_at {w : Cond} (i : Nat) (h : lw_tbl[i]? = some w) (hg : goodWord w = true) : w ∈ BIG := List.mem_filter.mpr ⟨List.mem_of_getElem? h, hg⟩
theorem big_tbl {w : Cond} (h : w ∈ BIG) : w ∈ lw_tbl := (List.mem_filter.mp h).1
theorem big_list (ws : List Cond) (ps : List Nat) (hp : ws = ps.filterMap (fun i => lw_tbl[i]?)) (hg : ws.all goodWord = true) : ∀ w ∈ ws, w ∈ BIG := by
  intro w hw
  have h1 := List.all_eq_true.mp hg w hw
  rw [hp] at hw
  obtain ⟨i, -, hi⟩ := List.mem_filterMap.mp hw
  exact big_at i hi h1
theorem qw_0 : Cond.selects RX4 yX4_found yX4_found ∈ BIG := big_at 0 (by decide +kernel) (by decide +kernel)
theorem qw_1 : Cond.selects RX4 yX4_isEwe yX4_isEwe ∈ BIG := big_at 1 (by decide +kernel) (by decide +kernel)
theorem qw_2 : Cond.selects RX4 yX4_passAlone yX4_passAlone ∈ BIG := big_at 2 (by decide +kernel) (by decide +kernel)
theorem qw_3 : Cond.selects RX4 yX4_passAloneFrom yX4_passAloneFrom ∈ BIG := big_at 3 (by decide +kernel) (by decide +kernel)
theorem qw_4 : Cond.selects RX3 yX3_step yX3_step ∈ BIG := big_at 4 (by decide +kernel) (by decide +kernel)
theorem qw_5 : Cond.selects RX3 yX3_takeItem yX3_takeItem ∈ BIG := big_at 5 (by decide +kernel) (by decide +kernel)
theorem qw_6 : Cond.selects RX3 yX3_kindNamed yX3_kindNamed ∈ BIG := big_at 6 (by decide +kernel) (by decide +kernel)
theorem qw_7 : Cond.selects RX3 yX3_isWord yX3_isWord ∈ BIG := big_at 7 (by decide +kernel) (by decide +kernel)
theorem qw_8 : Cond.selects RX3 yX3_takeEwe yX3_takeEwe ∈ BIG := big_at 8 (by decide +kernel) (by decide +kernel)
theorem qw_9 : Cond.selects RX3 yX3_takeNumber yX3_takeNumber ∈ BIG := big_at 9 (by decide +kernel) (by decide +kernel)
theorem qw_10 : Cond.selects RX3 yX3_takeWeather yX3_takeWeather ∈ BIG := big_at 10 (by decide +kernel) (by decide +kernel)
theorem qw_11 : Cond.selects RX3 yX3_takeCut yX3_takeCut ∈ BIG := big_at 11 (by decide +kernel) (by decide +kernel)
theorem qw_12 : Cond.selects RX3 yX3_takeStore yX3_takeStore ∈ BIG := big_at 12 (by decide +kernel) (by decide +kernel)
theorem qw_13 : Cond.selects RX4 yX4_growsAsTold yX4_growsAsTold ∈ BIG := big_at 13 (by decide +kernel) (by decide +kernel)
theorem qw_14 : Cond.selects RX5 yX5_becomes yX5_becomes ∈ BIG := big_at 14 (by decide +kernel) (by decide +kernel)
theorem qw_15 : Cond.selects RX5 yX5_finds yX5_finds ∈ BIG := big_at 15 (by decide +kernel) (by decide +kernel)
theorem qw_16 : Cond.selects RX5 yX5_ofYear yX5_ofYear ∈ BIG := big_at 16 (by decide +kernel) (by decide +kernel)
theorem qw_17 : Cond.selects RX5 yX5_twelve yX5_twelve ∈ BIG := big_at 17 (by decide +kernel) (by decide +kernel)
theorem qw_18 : Cond.selects RX5 yX5_fleeces yX5_fleeces ∈ BIG := big_at 18 (by decide +kernel) (by decide +kernel)
theorem qw_19 : Cond.selects RX5 yX5_woolOf yX5_woolOf ∈ BIG := big_at 19 (by decide +kernel) (by decide +kernel)
theorem qw_20 : Cond.selects RX5 yX5_adds yX5_adds ∈ BIG := big_at 20 (by decide +kernel) (by decide +kernel)
theorem qw_21 : Cond.selects RX5 yX5_isEwe yX5_isEwe ∈ BIG := big_at 21 (by decide +kernel) (by decide +kernel)
theorem qw_22 : Cond.selects RX5 yX5_its yX5_its ∈ BIG := big_at 22 (by decide +kernel) (by decide +kernel)
theorem qw_23 : Cond.selects RX5 yX5_calmsOf yX5_calmsOf ∈ BIG := big_at 23 (by decide +kernel) (by decide +kernel)
theorem qw_24 : Cond.selects RX5 yX5_growsIn yX5_growsIn ∈ BIG := big_at 24 (by decide +kernel) (by decide +kernel)
theorem qw_25 : Cond.selects RX5 yX5_losesOf yX5_losesOf ∈ BIG := big_at 25 (by decide +kernel) (by decide +kernel)
theorem qw_26 : Cond.selects RX5 yX5_burrsIn yX5_burrsIn ∈ BIG := big_at 26 (by decide +kernel) (by decide +kernel)
theorem qw_27 : Cond.selects RX5 yX5_cuts yX5_cuts ∈ BIG := big_at 27 (by decide +kernel) (by decide +kernel)
theorem qw_28 : Cond.selects RX5 yX5_warmthOf yX5_warmthOf ∈ BIG := big_at 28 (by decide +kernel) (by decide +kernel)
theorem qw_29 : Cond.selects RX5 yX5_harshOf yX5_harshOf ∈ BIG := big_at 29 (by decide +kernel) (by decide +kernel)
theorem qw_30 : Cond.selects RX5 yX5_monthsIn yX5_monthsIn ∈ BIG := big_at 30 (by decide +kernel) (by decide +kernel)
theorem qw_31 : Cond.selects RX5 yX5_monthsGo yX5_monthsGo ∈ BIG := big_at 31 (by decide +kernel) (by decide +kernel)
theorem qw_32 : Cond.selects RX5 yX5_month yX5_month ∈ BIG := big_at 32 (by decide +kernel) (by decide +kernel)
theorem qw_33 : Cond.selects RX5 yX5_isShorn yX5_isShorn ∈ BIG := big_at 33 (by decide +kernel) (by decide +kernel)
theorem qw_34 : Cond.selects RX5 yX5_twelveBehind yX5_twelveBehind ∈ BIG := big_at 34 (by decide +kernel) (by decide +kernel)
theorem qw_35 : Cond.selects RX5 yX5_laysAside yX5_laysAside ∈ BIG := big_at 35 (by decide +kernel) (by decide +kernel)
theorem qw_36 : Cond.selects RX5 yX5_takesBack yX5_takesBack ∈ BIG := big_at 36 (by decide +kernel) (by decide +kernel)
theorem qw_37 : Cond.selects RX5 yX5_behind yX5_behind ∈ BIG := big_at 37 (by decide +kernel) (by decide +kernel)
theorem qw_38 : Cond.selects RX5 yX5_firstAs yX5_firstAs ∈ BIG := big_at 38 (by decide +kernel) (by decide +kernel)
theorem qw_39 : Cond.selects RX5 yX5_saves yX5_saves ∈ BIG := big_at 39 (by decide +kernel) (by decide +kernel)
theorem qw_40 : Cond.selects RX5 yX5_token yX5_token ∈ BIG := big_at 40 (by decide +kernel) (by decide +kernel)
theorem qw_41 : Cond.selects RX5 yX5_byteAt yX5_byteAt ∈ BIG := big_at 41 (by decide +kernel) (by decide +kernel)
theorem qw_42 : Cond.selects RX5 yX5_item yX5_item ∈ BIG := big_at 42 (by decide +kernel) (by decide +kernel)
theorem qw_43 : Cond.selects RX5 yX5_kindHere yX5_kindHere ∈ BIG := big_at 43 (by decide +kernel) (by decide +kernel)
theorem qw_44 : Cond.selects RX5 yX5_word yX5_word ∈ BIG := big_at 44 (by decide +kernel) (by decide +kernel)
theorem qw_45 : Cond.selects RX5 yX5_eweItem yX5_eweItem ∈ BIG := big_at 45 (by decide +kernel) (by decide +kernel)
theorem qw_46 : Cond.selects RX5 yX5_must yX5_must ∈ BIG := big_at 46 (by decide +kernel) (by decide +kernel)
theorem qw_47 : Cond.selects RX5 yX5_number yX5_number ∈ BIG := big_at 47 (by decide +kernel) (by decide +kernel)
theorem qw_48 : Cond.selects RX5 yX5_weatherItem yX5_weatherItem ∈ BIG := big_at 48 (by decide +kernel) (by decide +kernel)
theorem qw_49 : Cond.selects RX5 yX5_cutItem yX5_cutItem ∈ BIG := big_at 49 (by decide +kernel) (by decide +kernel)
theorem qw_50 : Cond.selects RX5 yX5_storeItem yX5_storeItem ∈ BIG := big_at 50 (by decide +kernel) (by decide +kernel)
theorem qw_51 : Cond.selects RX5 yX5_putsBack yX5_putsBack ∈ BIG := big_at 51 (by decide +kernel) (by decide +kernel)
theorem qw_52 : Cond.selects RX5 yX5_wrongSheet yX5_wrongSheet ∈ BIG := big_at 52 (by decide +kernel) (by decide +kernel)
theorem qw_53 : Cond.selects RX5 yX5_isBook yX5_isBook ∈ BIG := big_at 53 (by decide +kernel) (by decide +kernel)
theorem qw_54 : Cond.selects RX5 yX5_coatsMade yX5_coatsMade ∈ BIG := big_at 54 (by decide +kernel) (by decide +kernel)
theorem qw_55 : Cond.selects RX5 yX5_frights yX5_frights ∈ BIG := big_at 55 (by decide +kernel) (by decide +kernel)
theorem qw_56 : Cond.initialized RL ∈ BIG := big_at 56 (by decide +kernel) (by decide +kernel)
theorem qw_57 : Cond.initialized RX4 ∈ BIG := big_at 57 (by decide +kernel) (by decide +kernel)
theorem qw_58 : Cond.initialized RX1 ∈ BIG := big_at 58 (by decide +kernel) (by decide +kernel)
theorem qw_59 : Cond.initialized RX0 ∈ BIG := big_at 59 (by decide +kernel) (by decide +kernel)
theorem qw_60 : Cond.initialized RX3 ∈ BIG := big_at 60 (by decide +kernel) (by decide +kernel)
theorem qw_61 : Cond.initialized RX2 ∈ BIG := big_at 61 (by decide +kernel) (by decide +kernel)
theorem qw_62 : Cond.initialized RX5 ∈ BIG := big_at 62 (by decide +kernel) (by decide +kernel)
theorem qw_63 : Cond.initialized RJ7 ∈ BIG := big_at 63 (by decide +kernel) (by decide +kernel)
theorem qw_64 : Cond.initialized RJ9 ∈ BIG := big_at 64 (by decide +kernel) (by decide +kernel)
theorem qw_65 : Cond.initialized RJ10 ∈ BIG := big_at 65 (by decide +kernel) (by decide +kernel)
theorem qw_66 : Cond.initialized RJ0 ∈ BIG := big_at 66 (by decide +kernel) (by decide +kernel)
theorem qw_67 : Cond.initialized RJ1 ∈ BIG := big_at 67 (by decide +kernel) (by decide +kernel)
theorem qw_68 : Cond.initialized RJ3 ∈ BIG := big_at 68 (by decide +kernel) (by decide +kernel)
theorem qw_69 : Cond.initialized RJ2 ∈ BIG := big_at 69 (by decide +kernel) (by decide +kernel)
theorem qw_70 : Cond.classLink RL 7 RX4 ∈ BIG := big_at 70 (by decide +kernel) (by decide +kernel)
theorem qw_71 : Cond.instantiable RX4 8 ∈ BIG := big_at 71 (by decide +kernel) (by decide +kernel)
theorem qw_72 : Cond.methodLink RL 9 yX4_init ∈ BIG := big_at 72 (by decide +kernel) (by decide +kernel)
theorem qw_73 : Cond.instanceMethod yX4_init ∈ BIG := big_at 73 (by decide +kernel) (by decide +kernel)
theorem qw_74 : Cond.code yX4_init cX4_init 2 none ∈ BIG := big_at 74 (by decide +kernel) (by decide +kernel)
theorem qw_75 : Cond.methodLink RX4 1 objectInit ∈ BIG := big_at 75 (by decide +kernel) (by decide +kernel)
theorem qw_76 : Cond.instanceMethod objectInit ∈ BIG := big_at 76 (by decide +kernel) (by decide +kernel)
theorem qw_77 : Cond.code objectInit ⟨#[0xb1]⟩ 1 none ∈ BIG := big_at 77 (by decide +kernel) (by decide +kernel)
theorem qw_78 : Cond.classLink RX4 7 RX1 ∈ BIG := big_at 78 (by decide +kernel) (by decide +kernel)
theorem qw_79 : Cond.instantiable RX1 7 ∈ BIG := big_at 79 (by decide +kernel) (by decide +kernel)
theorem qw_80 : Cond.methodLink RX4 9 yX1_init ∈ BIG := big_at 80 (by decide +kernel) (by decide +kernel)
theorem qw_81 : Cond.instanceMethod yX1_init ∈ BIG := big_at 81 (by decide +kernel) (by decide +kernel)
theorem qw_82 : Cond.code yX1_init cX1_init 2 none ∈ BIG := big_at 82 (by decide +kernel) (by decide +kernel)
theorem qw_83 : Cond.methodLink RX1 3 objectInit ∈ BIG := big_at 83 (by decide +kernel) (by decide +kernel)
theorem qw_84 : Cond.classLink RX1 21 RX0 ∈ BIG := big_at 84 (by decide +kernel) (by decide +kernel)
theorem qw_86 : Cond.classLink RX1 27 "[[I" ∈ BIG := big_at 86 (by decide +kernel) (by decide +kernel)
theorem qw_88 : Cond.instantiable RX0 4 ∈ BIG := big_at 88 (by decide +kernel) (by decide +kernel)
theorem qw_90 : Cond.instanceMethod yX0_init ∈ BIG := big_at 90 (by decide +kernel) (by decide +kernel)
theorem qw_91 : Cond.code yX0_init cX0_init 1 none ∈ BIG := big_at 91 (by decide +kernel) (by decide +kernel)
theorem qw_92 : Cond.methodLink RX0 3 objectInit ∈ BIG := big_at 92 (by decide +kernel) (by decide +kernel)
theorem qw_93 : Cond.fieldLink RX0 15 "ShornYear$Ewe" "kind" "I" ∈ BIG := big_at 93 (by decide +kernel) (by decide +kernel)
theorem qw_94 : Cond.fieldLink RX1 57 "ShornYear$Ewe" "kind" "I" ∈ BIG := big_at 94 (by decide +kernel) (by decide +kernel)
theorem qw_95 : Cond.fieldLink RX4 103 "ShornYear$Ewe" "kind" "I" ∈ BIG := big_at 95 (by decide +kernel) (by decide +kernel)
theorem qw_96 : Cond.fieldLink RX0 19 "ShornYear$Ewe" "fright" "I" ∈ BIG := big_at 96 (by decide +kernel) (by decide +kernel)
theorem qw_97 : Cond.fieldLink RX1 60 "ShornYear$Ewe" "fright" "I" ∈ BIG := big_at 97 (by decide +kernel) (by decide +kernel)
theorem qw_98 : Cond.fieldLink RX4 106 "ShornYear$Ewe" "fright" "I" ∈ BIG := big_at 98 (by decide +kernel) (by decide +kernel)
theorem qw_99 : Cond.fieldLink RX0 22 "ShornYear$Ewe" "wool" "I" ∈ BIG := big_at 99 (by decide +kernel) (by decide +kernel)
theorem qw_100 : Cond.fieldLink RX4 109 "ShornYear$Ewe" "wool" "I" ∈ BIG := big_at 100 (by decide +kernel) (by decide +kernel)
theorem qw_101 : Cond.fieldLink RX1 96 "ShornYear$Ewe" "wool" "I" ∈ BIG := big_at 101 (by decide +kernel) (by decide +kernel)
theorem qw_102 : Cond.fieldLink RX0 9 "ShornYear$Ewe" "fleece" "[I" ∈ BIG := big_at 102 (by decide +kernel) (by decide +kernel)
theorem qw_103 : Cond.fieldLink RX4 115 "ShornYear$Ewe" "fleece" "[I" ∈ BIG := big_at 103 (by decide +kernel) (by decide +kernel)
theorem qw_104 : Cond.fieldLink RX1 77 "ShornYear$Ewe" "fleece" "[I" ∈ BIG := big_at 104 (by decide +kernel) (by decide +kernel)
theorem qw_115 : Cond.fieldLink RX1 33 "ShornYear$Parish" "month" "I" ∈ BIG := big_at 115 (by decide +kernel) (by decide +kernel)
theorem qw_116 : Cond.fieldLink RX4 67 "ShornYear$Parish" "month" "I" ∈ BIG := big_at 116 (by decide +kernel) (by decide +kernel)
theorem qw_117 : Cond.fieldLink RX1 37 "ShornYear$Parish" "size" "I" ∈ BIG := big_at 117 (by decide +kernel) (by decide +kernel)
theorem qw_118 : Cond.fieldLink RX4 93 "ShornYear$Parish" "size" "I" ∈ BIG := big_at 118 (by decide +kernel) (by decide +kernel)
theorem qw_119 : Cond.fieldLink RX1 9 "ShornYear$Parish" "weather" "[I" ∈ BIG := big_at 119 (by decide +kernel) (by decide +kernel)
theorem qw_120 : Cond.fieldLink RX4 58 "ShornYear$Parish" "weather" "[I" ∈ BIG := big_at 120 (by decide +kernel) (by decide +kernel)
theorem qw_121 : Cond.fieldLink RX3 121 "ShornYear$Parish" "weather" "[I" ∈ BIG := big_at 121 (by decide +kernel) (by decide +kernel)
theorem qw_122 : Cond.fieldLink RX1 15 "ShornYear$Parish" "store" "[I" ∈ BIG := big_at 122 (by decide +kernel) (by decide +kernel)
theorem qw_123 : Cond.fieldLink RX4 61 "ShornYear$Parish" "store" "[I" ∈ BIG := big_at 123 (by decide +kernel) (by decide +kernel)
theorem qw_124 : Cond.fieldLink RX3 125 "ShornYear$Parish" "store" "[I" ∈ BIG := big_at 124 (by decide +kernel) (by decide +kernel)
theorem qw_125 : Cond.fieldLink RX1 18 "ShornYear$Parish" "rough" "[I" ∈ BIG := big_at 125 (by decide +kernel) (by decide +kernel)
theorem qw_126 : Cond.fieldLink RX4 64 "ShornYear$Parish" "rough" "[I" ∈ BIG := big_at 126 (by decide +kernel) (by decide +kernel)
theorem qw_127 : Cond.fieldLink RX1 23 "ShornYear$Parish" "ewes" "[LShornYear$Ewe;" ∈ BIG := big_at 127 (by decide +kernel) (by decide +kernel)
theorem qw_128 : Cond.fieldLink RX4 99 "ShornYear$Parish" "ewes" "[LShornYear$Ewe;" ∈ BIG := big_at 128 (by decide +kernel) (by decide +kernel)
theorem qw_129 : Cond.fieldLink RX1 29 "ShornYear$Parish" "coats" "[[I" ∈ BIG := big_at 129 (by decide +kernel) (by decide +kernel)
theorem qw_130 : Cond.fieldLink RX4 146 "ShornYear$Parish" "coats" "[[I" ∈ BIG := big_at 130 (by decide +kernel) (by decide +kernel)
theorem qw_146 : Cond.classLink RX4 22 RX0 ∈ BIG := big_at 146 (by decide +kernel) (by decide +kernel)
theorem qw_148 : Cond.classLink RX4 29 RX3 ∈ BIG := big_at 148 (by decide +kernel) (by decide +kernel)
theorem qw_149 : Cond.instantiable RX3 6 ∈ BIG := big_at 149 (by decide +kernel) (by decide +kernel)
theorem qw_151 : Cond.instanceMethod yX3_init ∈ BIG := big_at 151 (by decide +kernel) (by decide +kernel)
theorem qw_152 : Cond.code yX3_init cX3_init 1 none ∈ BIG := big_at 152 (by decide +kernel) (by decide +kernel)
theorem qw_153 : Cond.methodLink RX3 3 objectInit ∈ BIG := big_at 153 (by decide +kernel) (by decide +kernel)
theorem qw_154 : Cond.fieldLink RX3 9 "ShornYear$Tape" "bytes" "[B" ∈ BIG := big_at 154 (by decide +kernel) (by decide +kernel)
theorem qw_155 : Cond.fieldLink RX3 15 "ShornYear$Tape" "size" "I" ∈ BIG := big_at 155 (by decide +kernel) (by decide +kernel)
theorem qw_156 : Cond.fieldLink RX4 187 "ShornYear$Tape" "size" "I" ∈ BIG := big_at 156 (by decide +kernel) (by decide +kernel)
theorem qw_157 : Cond.fieldLink RX3 32 "ShornYear$Tape" "token" "I" ∈ BIG := big_at 157 (by decide +kernel) (by decide +kernel)
theorem qw_158 : Cond.fieldLink RX3 29 "ShornYear$Tape" "start" "I" ∈ BIG := big_at 158 (by decide +kernel) (by decide +kernel)
theorem qw_159 : Cond.fieldLink RX3 19 "ShornYear$Tape" "end" "I" ∈ BIG := big_at 159 (by decide +kernel) (by decide +kernel)
theorem qw_160 : Cond.fieldLink RX3 42 "ShornYear$Tape" "value" "I" ∈ BIG := big_at 160 (by decide +kernel) (by decide +kernel)
theorem qw_175 : Cond.classLink RX4 36 RX2 ∈ BIG := big_at 175 (by decide +kernel) (by decide +kernel)
theorem qw_177 : Cond.instantiable RX2 3 ∈ BIG := big_at 177 (by decide +kernel) (by decide +kernel)
theorem qw_179 : Cond.instanceMethod yX2_init ∈ BIG := big_at 179 (by decide +kernel) (by decide +kernel)
theorem qw_180 : Cond.code yX2_init cX2_init 1 none ∈ BIG := big_at 180 (by decide +kernel) (by decide +kernel)
theorem qw_181 : Cond.methodLink RX2 3 objectInit ∈ BIG := big_at 181 (by decide +kernel) (by decide +kernel)
theorem qw_182 : Cond.fieldLink RX2 9 "ShornYear$Sheet" "numbers" "[J" ∈ BIG := big_at 182 (by decide +kernel) (by decide +kernel)
theorem qw_183 : Cond.fieldLink RX4 205 "ShornYear$Sheet" "numbers" "[J" ∈ BIG := big_at 183 (by decide +kernel) (by decide +kernel)
theorem qw_184 : Cond.fieldLink RX2 19 "ShornYear$Sheet" "size" "I" ∈ BIG := big_at 184 (by decide +kernel) (by decide +kernel)
theorem qw_185 : Cond.fieldLink RX4 201 "ShornYear$Sheet" "size" "I" ∈ BIG := big_at 185 (by decide +kernel) (by decide +kernel)
theorem qw_186 : Cond.fieldLink RX2 15 "ShornYear$Sheet" "bits" "I" ∈ BIG := big_at 186 (by decide +kernel) (by decide +kernel)
theorem qw_187 : Cond.fieldLink RX4 213 "ShornYear$Sheet" "bits" "I" ∈ BIG := big_at 187 (by decide +kernel) (by decide +kernel)
theorem qw_196 : Cond.fieldLink RX4 10 "ShornYear" "here" "LShornYear$Parish;" ∈ BIG := big_at 196 (by decide +kernel) (by decide +kernel)
theorem qw_197 : Cond.fieldLink RX4 16 "ShornYear" "kept" "LShornYear$Parish;" ∈ BIG := big_at 197 (by decide +kernel) (by decide +kernel)
theorem qw_198 : Cond.fieldLink RX4 19 "ShornYear" "trial" "LShornYear$Parish;" ∈ BIG := big_at 198 (by decide +kernel) (by decide +kernel)
theorem qw_199 : Cond.fieldLink RX4 25 "ShornYear" "lone" "LShornYear$Ewe;" ∈ BIG := big_at 199 (by decide +kernel) (by decide +kernel)
theorem qw_200 : Cond.fieldLink RX4 32 "ShornYear" "tape" "LShornYear$Tape;" ∈ BIG := big_at 200 (by decide +kernel) (by decide +kernel)
theorem qw_201 : Cond.fieldLink RX4 38 "ShornYear" "sheets" "[LShornYear$Sheet;" ∈ BIG := big_at 201 (by decide +kernel) (by decide +kernel)
theorem qw_202 : Cond.fieldLink RX4 42 "ShornYear" "told" "[I" ∈ BIG := big_at 202 (by decide +kernel) (by decide +kernel)
theorem qw_203 : Cond.fieldLink RX4 236 "ShornYear" "hasImage" "Z" ∈ BIG := big_at 203 (by decide +kernel) (by decide +kernel)
theorem qw_221 : Cond.methodLink RL 13 yX4_weather ∈ BIG := big_at 221 (by decide +kernel) (by decide +kernel)
theorem qw_222 : Cond.instanceMethod yX4_weather ∈ BIG := big_at 222 (by decide +kernel) (by decide +kernel)
theorem qw_223 : Cond.selects RX4 yX4_weather yX4_weather ∈ BIG := big_at 223 (by decide +kernel) (by decide +kernel)
theorem qw_224 : Cond.code yX4_weather cX4_weather 4 (some .int) ∈ BIG := big_at 224 (by decide +kernel) (by decide +kernel)
theorem qw_225 : Cond.methodLink RX4 47 yX4_isMonth ∈ BIG := big_at 225 (by decide +kernel) (by decide +kernel)
theorem qw_226 : Cond.static yX4_isMonth ∈ BIG := big_at 226 (by decide +kernel) (by decide +kernel)
theorem qw_227 : Cond.code yX4_isMonth cX4_isMonth 1 (some .boolean) ∈ BIG := big_at 227 (by decide +kernel) (by decide +kernel)
theorem qw_228 : Cond.methodLink RX4 128 yX4_isWithin ∈ BIG := big_at 228 (by decide +kernel) (by decide +kernel)
theorem qw_229 : Cond.static yX4_isWithin ∈ BIG := big_at 229 (by decide +kernel) (by decide +kernel)
theorem qw_230 : Cond.code yX4_isWithin cX4_isWithin 3 (some .boolean) ∈ BIG := big_at 230 (by decide +kernel) (by decide +kernel)
theorem qw_231 : Cond.methodLink RX4 51 yX4_isWeather ∈ BIG := big_at 231 (by decide +kernel) (by decide +kernel)
theorem qw_232 : Cond.static yX4_isWeather ∈ BIG := big_at 232 (by decide +kernel) (by decide +kernel)
theorem qw_233 : Cond.code yX4_isWeather cX4_isWeather 1 (some .boolean) ∈ BIG := big_at 233 (by decide +kernel) (by decide +kernel)
theorem qw_234 : Cond.methodLink RX4 54 yX4_found ∈ BIG := big_at 234 (by decide +kernel) (by decide +kernel)
theorem qw_236 : Cond.instanceMethod yX4_found ∈ BIG := big_at 236 (by decide +kernel) (by decide +kernel)
theorem qw_237 : Cond.code yX4_found cX4_found 2 (some .int) ∈ BIG := big_at 237 (by decide +kernel) (by decide +kernel)
theorem qw_238 : Cond.constant RX4 246 (-1000000001) ∈ BIG := big_at 238 (by decide +kernel) (by decide +kernel)
theorem qw_239 : Cond.methodLink RL 18 yX4_monthOf ∈ BIG := big_at 239 (by decide +kernel) (by decide +kernel)
theorem qw_240 : Cond.instanceMethod yX4_monthOf ∈ BIG := big_at 240 (by decide +kernel) (by decide +kernel)
theorem qw_241 : Cond.selects RX4 yX4_monthOf yX4_monthOf ∈ BIG := big_at 241 (by decide +kernel) (by decide +kernel)
theorem qw_242 : Cond.code yX4_monthOf cX4_monthOf 3 (some .int) ∈ BIG := big_at 242 (by decide +kernel) (by decide +kernel)
theorem qw_243 : Cond.methodLink RL 22 yX4_now ∈ BIG := big_at 243 (by decide +kernel) (by decide +kernel)
theorem qw_244 : Cond.instanceMethod yX4_now ∈ BIG := big_at 244 (by decide +kernel) (by decide +kernel)
theorem qw_245 : Cond.selects RX4 yX4_now yX4_now ∈ BIG := big_at 245 (by decide +kernel) (by decide +kernel)
theorem qw_246 : Cond.code yX4_now cX4_now 2 (some .int) ∈ BIG := big_at 246 (by decide +kernel) (by decide +kernel)
theorem qw_247 : Cond.methodLink RX4 71 yX1_monthOfYear ∈ BIG := big_at 247 (by decide +kernel) (by decide +kernel)
theorem qw_248 : Cond.instanceMethod yX1_monthOfYear ∈ BIG := big_at 248 (by decide +kernel) (by decide +kernel)
theorem qw_249 : Cond.selects RX1 yX1_monthOfYear yX1_monthOfYear ∈ BIG := big_at 249 (by decide +kernel) (by decide +kernel)
theorem qw_250 : Cond.code yX1_monthOfYear cX1_monthOfYear 1 (some .int) ∈ BIG := big_at 250 (by decide +kernel) (by decide +kernel)
theorem qw_251 : Cond.methodLink RX4 75 yX4_sum ∈ BIG := big_at 251 (by decide +kernel) (by decide +kernel)
theorem qw_252 : Cond.static yX4_sum ∈ BIG := big_at 252 (by decide +kernel) (by decide +kernel)
theorem qw_253 : Cond.code yX4_sum cX4_sum 6 (some .int) ∈ BIG := big_at 253 (by decide +kernel) (by decide +kernel)
theorem qw_254 : Cond.methodLink RX4 79 yX1_woolOnAll ∈ BIG := big_at 254 (by decide +kernel) (by decide +kernel)
theorem qw_255 : Cond.instanceMethod yX1_woolOnAll ∈ BIG := big_at 255 (by decide +kernel) (by decide +kernel)
theorem qw_256 : Cond.selects RX1 yX1_woolOnAll yX1_woolOnAll ∈ BIG := big_at 256 (by decide +kernel) (by decide +kernel)
theorem qw_257 : Cond.code yX1_woolOnAll cX1_woolOnAll 3 (some .int) ∈ BIG := big_at 257 (by decide +kernel) (by decide +kernel)
theorem qw_258 : Cond.methodLink RL 27 yX4_ewe ∈ BIG := big_at 258 (by decide +kernel) (by decide +kernel)
theorem qw_259 : Cond.instanceMethod yX4_ewe ∈ BIG := big_at 259 (by decide +kernel) (by decide +kernel)
theorem qw_260 : Cond.selects RX4 yX4_ewe yX4_ewe ∈ BIG := big_at 260 (by decide +kernel) (by decide +kernel)
theorem qw_261 : Cond.code yX4_ewe cX4_ewe 2 (some .int) ∈ BIG := big_at 261 (by decide +kernel) (by decide +kernel)
theorem qw_262 : Cond.methodLink RX4 82 yX4_isKind ∈ BIG := big_at 262 (by decide +kernel) (by decide +kernel)
theorem qw_263 : Cond.static yX4_isKind ∈ BIG := big_at 263 (by decide +kernel) (by decide +kernel)
theorem qw_264 : Cond.code yX4_isKind cX4_isKind 1 (some .boolean) ∈ BIG := big_at 264 (by decide +kernel) (by decide +kernel)
theorem qw_265 : Cond.methodLink RX4 85 yX1_isFull ∈ BIG := big_at 265 (by decide +kernel) (by decide +kernel)
theorem qw_266 : Cond.instanceMethod yX1_isFull ∈ BIG := big_at 266 (by decide +kernel) (by decide +kernel)
theorem qw_267 : Cond.selects RX1 yX1_isFull yX1_isFull ∈ BIG := big_at 267 (by decide +kernel) (by decide +kernel)
theorem qw_268 : Cond.code yX1_isFull cX1_isFull 1 (some .boolean) ∈ BIG := big_at 268 (by decide +kernel) (by decide +kernel)
theorem qw_269 : Cond.methodLink RX4 89 yX1_add ∈ BIG := big_at 269 (by decide +kernel) (by decide +kernel)
theorem qw_270 : Cond.instanceMethod yX1_add ∈ BIG := big_at 270 (by decide +kernel) (by decide +kernel)
theorem qw_271 : Cond.selects RX1 yX1_add yX1_add ∈ BIG := big_at 271 (by decide +kernel) (by decide +kernel)
theorem qw_272 : Cond.code yX1_add cX1_add 3 none ∈ BIG := big_at 272 (by decide +kernel) (by decide +kernel)
theorem qw_273 : Cond.methodLink RX1 50 yX1_isFull ∈ BIG := big_at 273 (by decide +kernel) (by decide +kernel)
theorem qw_274 : Cond.methodLink RX1 54 yX0_bare ∈ BIG := big_at 274 (by decide +kernel) (by decide +kernel)
theorem qw_275 : Cond.instanceMethod yX0_bare ∈ BIG := big_at 275 (by decide +kernel) (by decide +kernel)
theorem qw_276 : Cond.selects RX0 yX0_bare yX0_bare ∈ BIG := big_at 276 (by decide +kernel) (by decide +kernel)
theorem qw_277 : Cond.code yX0_bare cX0_bare 1 none ∈ BIG := big_at 277 (by decide +kernel) (by decide +kernel)
theorem qw_278 : Cond.methodLink RX0 50 yJ7_fill_53178 ∈ BIG := big_at 278 (by decide +kernel) (by decide +kernel)
theorem qw_279 : Cond.static yJ7_fill_53178 ∈ BIG := big_at 279 (by decide +kernel) (by decide +kernel)
theorem qw_280 : Cond.code yJ7_fill_53178 cJ7_fill_53178 4 none ∈ BIG := big_at 280 (by decide +kernel) (by decide +kernel)
theorem qw_281 : Cond.methodLink RL 31 yX4_of ∈ BIG := big_at 281 (by decide +kernel) (by decide +kernel)
theorem qw_282 : Cond.instanceMethod yX4_of ∈ BIG := big_at 282 (by decide +kernel) (by decide +kernel)
theorem qw_283 : Cond.selects RX4 yX4_of yX4_of ∈ BIG := big_at 283 (by decide +kernel) (by decide +kernel)
theorem qw_284 : Cond.code yX4_of cX4_of 4 (some .int) ∈ BIG := big_at 284 (by decide +kernel) (by decide +kernel)
theorem qw_285 : Cond.methodLink RX4 96 yX4_isEwe ∈ BIG := big_at 285 (by decide +kernel) (by decide +kernel)
theorem qw_287 : Cond.instanceMethod yX4_isEwe ∈ BIG := big_at 287 (by decide +kernel) (by decide +kernel)
theorem qw_288 : Cond.code yX4_isEwe cX4_isEwe 2 (some .boolean) ∈ BIG := big_at 288 (by decide +kernel) (by decide +kernel)
theorem qw_289 : Cond.methodLink RX4 112 yX4_calms ∈ BIG := big_at 289 (by decide +kernel) (by decide +kernel)
theorem qw_290 : Cond.static yX4_calms ∈ BIG := big_at 290 (by decide +kernel) (by decide +kernel)
theorem qw_291 : Cond.code yX4_calms cX4_calms 1 (some .int) ∈ BIG := big_at 291 (by decide +kernel) (by decide +kernel)
theorem qw_292 : Cond.methodLink RL 35 yX4_fleece ∈ BIG := big_at 292 (by decide +kernel) (by decide +kernel)
theorem qw_293 : Cond.instanceMethod yX4_fleece ∈ BIG := big_at 293 (by decide +kernel) (by decide +kernel)
theorem qw_294 : Cond.selects RX4 yX4_fleece yX4_fleece ∈ BIG := big_at 294 (by decide +kernel) (by decide +kernel)
theorem qw_295 : Cond.code yX4_fleece cX4_fleece 3 (some .int) ∈ BIG := big_at 295 (by decide +kernel) (by decide +kernel)
theorem qw_296 : Cond.methodLink RL 39 yX4_can ∈ BIG := big_at 296 (by decide +kernel) (by decide +kernel)
theorem qw_297 : Cond.instanceMethod yX4_can ∈ BIG := big_at 297 (by decide +kernel) (by decide +kernel)
theorem qw_298 : Cond.selects RX4 yX4_can yX4_can ∈ BIG := big_at 298 (by decide +kernel) (by decide +kernel)
theorem qw_299 : Cond.code yX4_can cX4_can 5 (some .int) ∈ BIG := big_at 299 (by decide +kernel) (by decide +kernel)
theorem qw_300 : Cond.methodLink RX4 118 yX4_grows ∈ BIG := big_at 300 (by decide +kernel) (by decide +kernel)
theorem qw_301 : Cond.static yX4_grows ∈ BIG := big_at 301 (by decide +kernel) (by decide +kernel)
theorem qw_302 : Cond.code yX4_grows cX4_grows 3 (some .int) ∈ BIG := big_at 302 (by decide +kernel) (by decide +kernel)
theorem qw_303 : Cond.methodLink RX4 122 yX4_loses ∈ BIG := big_at 303 (by decide +kernel) (by decide +kernel)
theorem qw_304 : Cond.static yX4_loses ∈ BIG := big_at 304 (by decide +kernel) (by decide +kernel)
theorem qw_305 : Cond.code yX4_loses cX4_loses 3 (some .int) ∈ BIG := big_at 305 (by decide +kernel) (by decide +kernel)
theorem qw_306 : Cond.methodLink RX4 256 Lib.Math.max.name ∈ BIG := big_at 306 (by decide +kernel) (by decide +kernel)
theorem qw_307 : Cond.static Lib.Math.max.name ∈ BIG := big_at 307 (by decide +kernel) (by decide +kernel)
theorem qw_308 : Cond.code Lib.Math.max.name Lib.Math.max.code 2 (some .int) ∈ BIG := big_at 308 (by decide +kernel) (by decide +kernel)
theorem qw_309 : Cond.methodLink RX4 125 yX4_burrs ∈ BIG := big_at 309 (by decide +kernel) (by decide +kernel)
theorem qw_310 : Cond.static yX4_burrs ∈ BIG := big_at 310 (by decide +kernel) (by decide +kernel)
theorem qw_311 : Cond.code yX4_burrs cX4_burrs 3 (some .int) ∈ BIG := big_at 311 (by decide +kernel) (by decide +kernel)
theorem qw_312 : Cond.methodLink RL 44 yX4_scare ∈ BIG := big_at 312 (by decide +kernel) (by decide +kernel)
theorem qw_313 : Cond.instanceMethod yX4_scare ∈ BIG := big_at 313 (by decide +kernel) (by decide +kernel)
theorem qw_314 : Cond.selects RX4 yX4_scare yX4_scare ∈ BIG := big_at 314 (by decide +kernel) (by decide +kernel)
theorem qw_315 : Cond.code yX4_scare cX4_scare 4 (some .int) ∈ BIG := big_at 315 (by decide +kernel) (by decide +kernel)
theorem qw_316 : Cond.methodLink RL 48 yX4_turn ∈ BIG := big_at 316 (by decide +kernel) (by decide +kernel)
theorem qw_317 : Cond.instanceMethod yX4_turn ∈ BIG := big_at 317 (by decide +kernel) (by decide +kernel)
theorem qw_318 : Cond.selects RX4 yX4_turn yX4_turn ∈ BIG := big_at 318 (by decide +kernel) (by decide +kernel)
theorem qw_319 : Cond.code yX4_turn cX4_turn 4 (some .int) ∈ BIG := big_at 319 (by decide +kernel) (by decide +kernel)
theorem qw_320 : Cond.methodLink RL 52 yX4_as ∈ BIG := big_at 320 (by decide +kernel) (by decide +kernel)
theorem qw_321 : Cond.instanceMethod yX4_as ∈ BIG := big_at 321 (by decide +kernel) (by decide +kernel)
theorem qw_322 : Cond.selects RX4 yX4_as yX4_as ∈ BIG := big_at 322 (by decide +kernel) (by decide +kernel)
theorem qw_323 : Cond.code yX4_as cX4_as 4 (some .int) ∈ BIG := big_at 323 (by decide +kernel) (by decide +kernel)
theorem qw_324 : Cond.methodLink RX4 132 yX4_isOfKind ∈ BIG := big_at 324 (by decide +kernel) (by decide +kernel)
theorem qw_325 : Cond.static yX4_isOfKind ∈ BIG := big_at 325 (by decide +kernel) (by decide +kernel)
theorem qw_326 : Cond.code yX4_isOfKind cX4_isOfKind 4 (some .boolean) ∈ BIG := big_at 326 (by decide +kernel) (by decide +kernel)
theorem qw_327 : Cond.methodLink RX4 253 yX4_kindAbove ∈ BIG := big_at 327 (by decide +kernel) (by decide +kernel)
theorem qw_328 : Cond.static yX4_kindAbove ∈ BIG := big_at 328 (by decide +kernel) (by decide +kernel)
theorem qw_329 : Cond.code yX4_kindAbove cX4_kindAbove 1 (some .int) ∈ BIG := big_at 329 (by decide +kernel) (by decide +kernel)
theorem qw_330 : Cond.methodLink RL 56 yX4_cut ∈ BIG := big_at 330 (by decide +kernel) (by decide +kernel)
theorem qw_331 : Cond.instanceMethod yX4_cut ∈ BIG := big_at 331 (by decide +kernel) (by decide +kernel)
theorem qw_332 : Cond.selects RX4 yX4_cut yX4_cut ∈ BIG := big_at 332 (by decide +kernel) (by decide +kernel)
theorem qw_333 : Cond.code yX4_cut cX4_cut 4 (some .int) ∈ BIG := big_at 333 (by decide +kernel) (by decide +kernel)
theorem qw_334 : Cond.methodLink RX4 136 yX4_isCoat ∈ BIG := big_at 334 (by decide +kernel) (by decide +kernel)
theorem qw_335 : Cond.static yX4_isCoat ∈ BIG := big_at 335 (by decide +kernel) (by decide +kernel)
theorem qw_336 : Cond.code yX4_isCoat cX4_isCoat 1 (some .boolean) ∈ BIG := big_at 336 (by decide +kernel) (by decide +kernel)
theorem qw_337 : Cond.methodLink RX4 139 yX1_roomInCoat ∈ BIG := big_at 337 (by decide +kernel) (by decide +kernel)
theorem qw_338 : Cond.instanceMethod yX1_roomInCoat ∈ BIG := big_at 338 (by decide +kernel) (by decide +kernel)
theorem qw_339 : Cond.selects RX1 yX1_roomInCoat yX1_roomInCoat ∈ BIG := big_at 339 (by decide +kernel) (by decide +kernel)
theorem qw_340 : Cond.code yX1_roomInCoat cX1_roomInCoat 3 (some .int) ∈ BIG := big_at 340 (by decide +kernel) (by decide +kernel)
theorem qw_341 : Cond.methodLink RX4 142 yX1_cutFor ∈ BIG := big_at 341 (by decide +kernel) (by decide +kernel)
theorem qw_342 : Cond.instanceMethod yX1_cutFor ∈ BIG := big_at 342 (by decide +kernel) (by decide +kernel)
theorem qw_343 : Cond.selects RX1 yX1_cutFor yX1_cutFor ∈ BIG := big_at 343 (by decide +kernel) (by decide +kernel)
theorem qw_344 : Cond.code yX1_cutFor cX1_cutFor 4 none ∈ BIG := big_at 344 (by decide +kernel) (by decide +kernel)
theorem qw_345 : Cond.methodLink RL 60 yX4_coatOf ∈ BIG := big_at 345 (by decide +kernel) (by decide +kernel)
theorem qw_346 : Cond.instanceMethod yX4_coatOf ∈ BIG := big_at 346 (by decide +kernel) (by decide +kernel)
theorem qw_347 : Cond.selects RX4 yX4_coatOf yX4_coatOf ∈ BIG := big_at 347 (by decide +kernel) (by decide +kernel)
theorem qw_348 : Cond.code yX4_coatOf cX4_coatOf 3 (some .int) ∈ BIG := big_at 348 (by decide +kernel) (by decide +kernel)
theorem qw_349 : Cond.methodLink RX4 150 yX1_warmthOfCoat ∈ BIG := big_at 349 (by decide +kernel) (by decide +kernel)
theorem qw_350 : Cond.instanceMethod yX1_warmthOfCoat ∈ BIG := big_at 350 (by decide +kernel) (by decide +kernel)
theorem qw_351 : Cond.selects RX1 yX1_warmthOfCoat yX1_warmthOfCoat ∈ BIG := big_at 351 (by decide +kernel) (by decide +kernel)
theorem qw_352 : Cond.code yX1_warmthOfCoat cX1_warmthOfCoat 4 (some .int) ∈ BIG := big_at 352 (by decide +kernel) (by decide +kernel)
theorem qw_353 : Cond.methodLink RX1 89 yX1_warmthOf ∈ BIG := big_at 353 (by decide +kernel) (by decide +kernel)
theorem qw_354 : Cond.instanceMethod yX1_warmthOf ∈ BIG := big_at 354 (by decide +kernel) (by decide +kernel)
theorem qw_355 : Cond.selects RX1 yX1_warmthOf yX1_warmthOf ∈ BIG := big_at 355 (by decide +kernel) (by decide +kernel)
theorem qw_356 : Cond.code yX1_warmthOf cX1_warmthOf 3 (some .int) ∈ BIG := big_at 356 (by decide +kernel) (by decide +kernel)
theorem qw_357 : Cond.methodLink RX4 153 yX1_harshnessOfCoat ∈ BIG := big_at 357 (by decide +kernel) (by decide +kernel)
theorem qw_358 : Cond.instanceMethod yX1_harshnessOfCoat ∈ BIG := big_at 358 (by decide +kernel) (by decide +kernel)
theorem qw_359 : Cond.selects RX1 yX1_harshnessOfCoat yX1_harshnessOfCoat ∈ BIG := big_at 359 (by decide +kernel) (by decide +kernel)
theorem qw_360 : Cond.code yX1_harshnessOfCoat cX1_harshnessOfCoat 4 (some .int) ∈ BIG := big_at 360 (by decide +kernel) (by decide +kernel)
theorem qw_361 : Cond.methodLink RX4 156 yX1_monthsInCoat ∈ BIG := big_at 361 (by decide +kernel) (by decide +kernel)
theorem qw_362 : Cond.instanceMethod yX1_monthsInCoat ∈ BIG := big_at 362 (by decide +kernel) (by decide +kernel)
theorem qw_363 : Cond.selects RX1 yX1_monthsInCoat yX1_monthsInCoat ∈ BIG := big_at 363 (by decide +kernel) (by decide +kernel)
theorem qw_364 : Cond.code yX1_monthsInCoat cX1_monthsInCoat 4 (some .int) ∈ BIG := big_at 364 (by decide +kernel) (by decide +kernel)
theorem qw_365 : Cond.methodLink RL 64 yX4_unpick ∈ BIG := big_at 365 (by decide +kernel) (by decide +kernel)
theorem qw_366 : Cond.instanceMethod yX4_unpick ∈ BIG := big_at 366 (by decide +kernel) (by decide +kernel)
theorem qw_367 : Cond.selects RX4 yX4_unpick yX4_unpick ∈ BIG := big_at 367 (by decide +kernel) (by decide +kernel)
theorem qw_368 : Cond.code yX4_unpick cX4_unpick 3 (some .int) ∈ BIG := big_at 368 (by decide +kernel) (by decide +kernel)
theorem qw_369 : Cond.methodLink RX4 159 yX1_undoCoat ∈ BIG := big_at 369 (by decide +kernel) (by decide +kernel)
theorem qw_370 : Cond.instanceMethod yX1_undoCoat ∈ BIG := big_at 370 (by decide +kernel) (by decide +kernel)
theorem qw_371 : Cond.selects RX1 yX1_undoCoat yX1_undoCoat ∈ BIG := big_at 371 (by decide +kernel) (by decide +kernel)
theorem qw_372 : Cond.code yX1_undoCoat cX1_undoCoat 3 none ∈ BIG := big_at 372 (by decide +kernel) (by decide +kernel)
theorem qw_373 : Cond.methodLink RX1 80 Lib.Math.min.name ∈ BIG := big_at 373 (by decide +kernel) (by decide +kernel)
theorem qw_374 : Cond.static Lib.Math.min.name ∈ BIG := big_at 374 (by decide +kernel) (by decide +kernel)
theorem qw_375 : Cond.code Lib.Math.min.name Lib.Math.min.code 2 (some .int) ∈ BIG := big_at 375 (by decide +kernel) (by decide +kernel)
theorem qw_376 : Cond.methodLink RL 68 yX4_months ∈ BIG := big_at 376 (by decide +kernel) (by decide +kernel)
theorem qw_377 : Cond.instanceMethod yX4_months ∈ BIG := big_at 377 (by decide +kernel) (by decide +kernel)
theorem qw_378 : Cond.selects RX4 yX4_months yX4_months ∈ BIG := big_at 378 (by decide +kernel) (by decide +kernel)
theorem qw_379 : Cond.code yX4_months cX4_months 2 (some .int) ∈ BIG := big_at 379 (by decide +kernel) (by decide +kernel)
theorem qw_380 : Cond.methodLink RX4 163 yX1_pass ∈ BIG := big_at 380 (by decide +kernel) (by decide +kernel)
theorem qw_381 : Cond.instanceMethod yX1_pass ∈ BIG := big_at 381 (by decide +kernel) (by decide +kernel)
theorem qw_382 : Cond.selects RX1 yX1_pass yX1_pass ∈ BIG := big_at 382 (by decide +kernel) (by decide +kernel)
theorem qw_383 : Cond.code yX1_pass cX1_pass 3 none ∈ BIG := big_at 383 (by decide +kernel) (by decide +kernel)
theorem qw_384 : Cond.methodLink RX1 63 yX1_passOne ∈ BIG := big_at 384 (by decide +kernel) (by decide +kernel)
theorem qw_385 : Cond.instanceMethod yX1_passOne ∈ BIG := big_at 385 (by decide +kernel) (by decide +kernel)
theorem qw_386 : Cond.selects RX1 yX1_passOne yX1_passOne ∈ BIG := big_at 386 (by decide +kernel) (by decide +kernel)
theorem qw_387 : Cond.code yX1_passOne cX1_passOne 3 none ∈ BIG := big_at 387 (by decide +kernel) (by decide +kernel)
theorem qw_388 : Cond.methodLink RX1 66 yX1_monthOfYear ∈ BIG := big_at 388 (by decide +kernel) (by decide +kernel)
theorem qw_389 : Cond.methodLink RX1 70 yX0_grow ∈ BIG := big_at 389 (by decide +kernel) (by decide +kernel)
theorem qw_390 : Cond.instanceMethod yX0_grow ∈ BIG := big_at 390 (by decide +kernel) (by decide +kernel)
theorem qw_391 : Cond.selects RX0 yX0_grow yX0_grow ∈ BIG := big_at 391 (by decide +kernel) (by decide +kernel)
theorem qw_392 : Cond.code yX0_grow cX0_grow 5 none ∈ BIG := big_at 392 (by decide +kernel) (by decide +kernel)
theorem qw_395 : Cond.methodLink RX0 38 Lib.Math.min.name ∈ BIG := big_at 395 (by decide +kernel) (by decide +kernel)
theorem qw_397 : Cond.methodLink RX0 47 Lib.Math.max.name ∈ BIG := big_at 397 (by decide +kernel) (by decide +kernel)
theorem qw_398 : Cond.methodLink RX1 74 yX1_shear ∈ BIG := big_at 398 (by decide +kernel) (by decide +kernel)
theorem qw_399 : Cond.instanceMethod yX1_shear ∈ BIG := big_at 399 (by decide +kernel) (by decide +kernel)
theorem qw_400 : Cond.selects RX1 yX1_shear yX1_shear ∈ BIG := big_at 400 (by decide +kernel) (by decide +kernel)
theorem qw_401 : Cond.code yX1_shear cX1_shear 3 none ∈ BIG := big_at 401 (by decide +kernel) (by decide +kernel)
theorem qw_403 : Cond.methodLink RL 72 yX4_on ∈ BIG := big_at 403 (by decide +kernel) (by decide +kernel)
theorem qw_404 : Cond.instanceMethod yX4_on ∈ BIG := big_at 404 (by decide +kernel) (by decide +kernel)
theorem qw_405 : Cond.selects RX4 yX4_on yX4_on ∈ BIG := big_at 405 (by decide +kernel) (by decide +kernel)
theorem qw_406 : Cond.code yX4_on cX4_on 4 (some .int) ∈ BIG := big_at 406 (by decide +kernel) (by decide +kernel)
theorem qw_407 : Cond.methodLink RX4 166 yX0_become ∈ BIG := big_at 407 (by decide +kernel) (by decide +kernel)
theorem qw_408 : Cond.instanceMethod yX0_become ∈ BIG := big_at 408 (by decide +kernel) (by decide +kernel)
theorem qw_409 : Cond.selects RX0 yX0_become yX0_become ∈ BIG := big_at 409 (by decide +kernel) (by decide +kernel)
theorem qw_410 : Cond.code yX0_become cX0_become 2 none ∈ BIG := big_at 410 (by decide +kernel) (by decide +kernel)
theorem qw_411 : Cond.methodLink RX0 25 arraycopyName ∈ BIG := big_at 411 (by decide +kernel) (by decide +kernel)
theorem qw_412 : Cond.static arraycopyName ∈ BIG := big_at 412 (by decide +kernel) (by decide +kernel)
theorem qw_413 : Cond.native arraycopyName ∈ BIG := big_at 413 (by decide +kernel) (by decide +kernel)
theorem qw_414 : Cond.methodLink RX4 170 yX4_passAlone ∈ BIG := big_at 414 (by decide +kernel) (by decide +kernel)
theorem qw_416 : Cond.instanceMethod yX4_passAlone ∈ BIG := big_at 416 (by decide +kernel) (by decide +kernel)
theorem qw_417 : Cond.code yX4_passAlone cX4_passAlone 2 none ∈ BIG := big_at 417 (by decide +kernel) (by decide +kernel)
theorem qw_418 : Cond.methodLink RX4 229 yX4_passAloneFrom ∈ BIG := big_at 418 (by decide +kernel) (by decide +kernel)
theorem qw_420 : Cond.instanceMethod yX4_passAloneFrom ∈ BIG := big_at 420 (by decide +kernel) (by decide +kernel)
theorem qw_421 : Cond.code yX4_passAloneFrom cX4_passAloneFrom 6 none ∈ BIG := big_at 421 (by decide +kernel) (by decide +kernel)
theorem qw_422 : Cond.methodLink RX4 247 yX0_grow ∈ BIG := big_at 422 (by decide +kernel) (by decide +kernel)
theorem qw_423 : Cond.methodLink RX4 250 yX0_bare ∈ BIG := big_at 423 (by decide +kernel) (by decide +kernel)
theorem qw_424 : Cond.methodLink RL 76 yX4_then ∈ BIG := big_at 424 (by decide +kernel) (by decide +kernel)
theorem qw_425 : Cond.instanceMethod yX4_then ∈ BIG := big_at 425 (by decide +kernel) (by decide +kernel)
theorem qw_426 : Cond.selects RX4 yX4_then yX4_then ∈ BIG := big_at 426 (by decide +kernel) (by decide +kernel)
theorem qw_427 : Cond.code yX4_then cX4_then 4 (some .int) ∈ BIG := big_at 427 (by decide +kernel) (by decide +kernel)
theorem qw_428 : Cond.methodLink RX4 173 yX1_become ∈ BIG := big_at 428 (by decide +kernel) (by decide +kernel)
theorem qw_429 : Cond.instanceMethod yX1_become ∈ BIG := big_at 429 (by decide +kernel) (by decide +kernel)
theorem qw_430 : Cond.selects RX1 yX1_become yX1_become ∈ BIG := big_at 430 (by decide +kernel) (by decide +kernel)
theorem qw_431 : Cond.code yX1_become cX1_become 3 none ∈ BIG := big_at 431 (by decide +kernel) (by decide +kernel)
theorem qw_432 : Cond.methodLink RX1 40 arraycopyName ∈ BIG := big_at 432 (by decide +kernel) (by decide +kernel)
theorem qw_433 : Cond.methodLink RX1 46 yX0_become ∈ BIG := big_at 433 (by decide +kernel) (by decide +kernel)
theorem qw_434 : Cond.methodLink RL 80 yX4_enough ∈ BIG := big_at 434 (by decide +kernel) (by decide +kernel)
theorem qw_435 : Cond.instanceMethod yX4_enough ∈ BIG := big_at 435 (by decide +kernel) (by decide +kernel)
theorem qw_436 : Cond.selects RX4 yX4_enough yX4_enough ∈ BIG := big_at 436 (by decide +kernel) (by decide +kernel)
theorem qw_437 : Cond.code yX4_enough cX4_enough 4 (some .int) ∈ BIG := big_at 437 (by decide +kernel) (by decide +kernel)
theorem qw_438 : Cond.methodLink RX4 176 yX1_passOne ∈ BIG := big_at 438 (by decide +kernel) (by decide +kernel)
theorem qw_439 : Cond.methodLink RL 84 yX4_calm ∈ BIG := big_at 439 (by decide +kernel) (by decide +kernel)
theorem qw_440 : Cond.instanceMethod yX4_calm ∈ BIG := big_at 440 (by decide +kernel) (by decide +kernel)
theorem qw_441 : Cond.selects RX4 yX4_calm yX4_calm ∈ BIG := big_at 441 (by decide +kernel) (by decide +kernel)
theorem qw_442 : Cond.code yX4_calm cX4_calm 5 (some .int) ∈ BIG := big_at 442 (by decide +kernel) (by decide +kernel)
theorem qw_443 : Cond.methodLink RL 88 yX4_kind ∈ BIG := big_at 443 (by decide +kernel) (by decide +kernel)
theorem qw_444 : Cond.instanceMethod yX4_kind ∈ BIG := big_at 444 (by decide +kernel) (by decide +kernel)
theorem qw_445 : Cond.selects RX4 yX4_kind yX4_kind ∈ BIG := big_at 445 (by decide +kernel) (by decide +kernel)
theorem qw_446 : Cond.code yX4_kind cX4_kind 7 (some .int) ∈ BIG := big_at 446 (by decide +kernel) (by decide +kernel)
theorem qw_447 : Cond.methodLink RL 92 yX4_cold ∈ BIG := big_at 447 (by decide +kernel) (by decide +kernel)
theorem qw_448 : Cond.instanceMethod yX4_cold ∈ BIG := big_at 448 (by decide +kernel) (by decide +kernel)
theorem qw_449 : Cond.selects RX4 yX4_cold yX4_cold ∈ BIG := big_at 449 (by decide +kernel) (by decide +kernel)
theorem qw_450 : Cond.code yX4_cold cX4_cold 5 (some .int) ∈ BIG := big_at 450 (by decide +kernel) (by decide +kernel)
theorem qw_451 : Cond.methodLink RL 96 yX4_best ∈ BIG := big_at 451 (by decide +kernel) (by decide +kernel)
theorem qw_452 : Cond.instanceMethod yX4_best ∈ BIG := big_at 452 (by decide +kernel) (by decide +kernel)
theorem qw_453 : Cond.selects RX4 yX4_best yX4_best ∈ BIG := big_at 453 (by decide +kernel) (by decide +kernel)
theorem qw_454 : Cond.code yX4_best cX4_best 8 (some .int) ∈ BIG := big_at 454 (by decide +kernel) (by decide +kernel)
theorem qw_455 : Cond.methodLink RX4 179 yX1_warmthOf ∈ BIG := big_at 455 (by decide +kernel) (by decide +kernel)
theorem qw_456 : Cond.methodLink RL 100 yX4_bears ∈ BIG := big_at 456 (by decide +kernel) (by decide +kernel)
theorem qw_457 : Cond.instanceMethod yX4_bears ∈ BIG := big_at 457 (by decide +kernel) (by decide +kernel)
theorem qw_458 : Cond.selects RX4 yX4_bears yX4_bears ∈ BIG := big_at 458 (by decide +kernel) (by decide +kernel)
theorem qw_459 : Cond.code yX4_bears cX4_bears 5 (some .int) ∈ BIG := big_at 459 (by decide +kernel) (by decide +kernel)
theorem qw_460 : Cond.methodLink RL 104 yX4_milder ∈ BIG := big_at 460 (by decide +kernel) (by decide +kernel)
theorem qw_461 : Cond.instanceMethod yX4_milder ∈ BIG := big_at 461 (by decide +kernel) (by decide +kernel)
theorem qw_462 : Cond.selects RX4 yX4_milder yX4_milder ∈ BIG := big_at 462 (by decide +kernel) (by decide +kernel)
theorem qw_463 : Cond.code yX4_milder cX4_milder 6 (some .int) ∈ BIG := big_at 463 (by decide +kernel) (by decide +kernel)
theorem qw_464 : Cond.methodLink RX4 182 Lib.Math.min.name ∈ BIG := big_at 464 (by decide +kernel) (by decide +kernel)
theorem qw_465 : Cond.methodLink RL 108 yX4_warmest ∈ BIG := big_at 465 (by decide +kernel) (by decide +kernel)
theorem qw_466 : Cond.instanceMethod yX4_warmest ∈ BIG := big_at 466 (by decide +kernel) (by decide +kernel)
theorem qw_467 : Cond.selects RX4 yX4_warmest yX4_warmest ∈ BIG := big_at 467 (by decide +kernel) (by decide +kernel)
theorem qw_468 : Cond.code yX4_warmest cX4_warmest 5 (some .int) ∈ BIG := big_at 468 (by decide +kernel) (by decide +kernel)
theorem qw_469 : Cond.methodLink RL 113 yX4_feed ∈ BIG := big_at 469 (by decide +kernel) (by decide +kernel)
theorem qw_470 : Cond.instanceMethod yX4_feed ∈ BIG := big_at 470 (by decide +kernel) (by decide +kernel)
theorem qw_471 : Cond.selects RX4 yX4_feed yX4_feed ∈ BIG := big_at 471 (by decide +kernel) (by decide +kernel)
theorem qw_472 : Cond.code yX4_feed cX4_feed 4 (some .int) ∈ BIG := big_at 472 (by decide +kernel) (by decide +kernel)
theorem qw_473 : Cond.methodLink RX4 188 yX3_add ∈ BIG := big_at 473 (by decide +kernel) (by decide +kernel)
theorem qw_474 : Cond.instanceMethod yX3_add ∈ BIG := big_at 474 (by decide +kernel) (by decide +kernel)
theorem qw_475 : Cond.selects RX3 yX3_add yX3_add ∈ BIG := big_at 475 (by decide +kernel) (by decide +kernel)
theorem qw_476 : Cond.code yX3_add cX3_add 2 none ∈ BIG := big_at 476 (by decide +kernel) (by decide +kernel)
theorem qw_477 : Cond.methodLink RL 117 yX4_wipe ∈ BIG := big_at 477 (by decide +kernel) (by decide +kernel)
theorem qw_478 : Cond.instanceMethod yX4_wipe ∈ BIG := big_at 478 (by decide +kernel) (by decide +kernel)
theorem qw_479 : Cond.selects RX4 yX4_wipe yX4_wipe ∈ BIG := big_at 479 (by decide +kernel) (by decide +kernel)
theorem qw_480 : Cond.code yX4_wipe cX4_wipe 2 (some .int) ∈ BIG := big_at 480 (by decide +kernel) (by decide +kernel)
theorem qw_481 : Cond.methodLink RL 121 yX4_parish ∈ BIG := big_at 481 (by decide +kernel) (by decide +kernel)
theorem qw_482 : Cond.instanceMethod yX4_parish ∈ BIG := big_at 482 (by decide +kernel) (by decide +kernel)
theorem qw_483 : Cond.selects RX4 yX4_parish yX4_parish ∈ BIG := big_at 483 (by decide +kernel) (by decide +kernel)
theorem qw_484 : Cond.code yX4_parish cX4_parish 2 (some .int) ∈ BIG := big_at 484 (by decide +kernel) (by decide +kernel)
theorem qw_485 : Cond.methodLink RX4 191 yX3_applyTo ∈ BIG := big_at 485 (by decide +kernel) (by decide +kernel)
theorem qw_486 : Cond.instanceMethod yX3_applyTo ∈ BIG := big_at 486 (by decide +kernel) (by decide +kernel)
theorem qw_487 : Cond.selects RX3 yX3_applyTo yX3_applyTo ∈ BIG := big_at 487 (by decide +kernel) (by decide +kernel)
theorem qw_488 : Cond.code yX3_applyTo cX3_applyTo 3 (some .int) ∈ BIG := big_at 488 (by decide +kernel) (by decide +kernel)
theorem qw_489 : Cond.methodLink RX3 22 yX3_step ∈ BIG := big_at 489 (by decide +kernel) (by decide +kernel)
theorem qw_491 : Cond.instanceMethod yX3_step ∈ BIG := big_at 491 (by decide +kernel) (by decide +kernel)
theorem qw_492 : Cond.code yX3_step cX3_step 1 none ∈ BIG := big_at 492 (by decide +kernel) (by decide +kernel)
theorem qw_493 : Cond.methodLink RX3 35 yX3_isLetter ∈ BIG := big_at 493 (by decide +kernel) (by decide +kernel)
theorem qw_494 : Cond.static yX3_isLetter ∈ BIG := big_at 494 (by decide +kernel) (by decide +kernel)
theorem qw_495 : Cond.code yX3_isLetter cX3_isLetter 1 (some .boolean) ∈ BIG := big_at 495 (by decide +kernel) (by decide +kernel)
theorem qw_496 : Cond.methodLink RX3 39 yX3_isDigit ∈ BIG := big_at 496 (by decide +kernel) (by decide +kernel)
theorem qw_497 : Cond.static yX3_isDigit ∈ BIG := big_at 497 (by decide +kernel) (by decide +kernel)
theorem qw_498 : Cond.code yX3_isDigit cX3_isDigit 1 (some .boolean) ∈ BIG := big_at 498 (by decide +kernel) (by decide +kernel)
theorem qw_499 : Cond.methodLink RX3 45 Lib.Math.min.name ∈ BIG := big_at 499 (by decide +kernel) (by decide +kernel)
theorem qw_500 : Cond.methodLink RX3 25 yX3_takeItem ∈ BIG := big_at 500 (by decide +kernel) (by decide +kernel)
theorem qw_502 : Cond.instanceMethod yX3_takeItem ∈ BIG := big_at 502 (by decide +kernel) (by decide +kernel)
theorem qw_503 : Cond.code yX3_takeItem cX3_takeItem 3 (some .boolean) ∈ BIG := big_at 503 (by decide +kernel) (by decide +kernel)
theorem qw_504 : Cond.methodLink RX3 81 yX3_kindNamed ∈ BIG := big_at 504 (by decide +kernel) (by decide +kernel)
theorem qw_506 : Cond.instanceMethod yX3_kindNamed ∈ BIG := big_at 506 (by decide +kernel) (by decide +kernel)
theorem qw_507 : Cond.code yX3_kindNamed cX3_kindNamed 2 (some .int) ∈ BIG := big_at 507 (by decide +kernel) (by decide +kernel)
theorem qw_508 : Cond.methodLink RX3 61 yX3_nameOfKind ∈ BIG := big_at 508 (by decide +kernel) (by decide +kernel)
theorem qw_509 : Cond.static yX3_nameOfKind ∈ BIG := big_at 509 (by decide +kernel) (by decide +kernel)
theorem qw_510 : Cond.code yX3_nameOfKind cX3_nameOfKind 1 (some (.object "java/lang/String")) ∈ BIG := big_at 510 (by decide +kernel) (by decide +kernel)
theorem qw_517 : Cond.methodLink RX3 65 yX3_isWord ∈ BIG := big_at 517 (by decide +kernel) (by decide +kernel)
theorem qw_519 : Cond.instanceMethod yX3_isWord ∈ BIG := big_at 519 (by decide +kernel) (by decide +kernel)
theorem qw_520 : Cond.code yX3_isWord cX3_isWord 3 (some .boolean) ∈ BIG := big_at 520 (by decide +kernel) (by decide +kernel)
theorem qw_521 : Cond.methodLink RX3 51 yJ0_length_8abf5 ∈ BIG := big_at 521 (by decide +kernel) (by decide +kernel)
theorem qw_522 : Cond.instanceMethod yJ0_length_8abf5 ∈ BIG := big_at 522 (by decide +kernel) (by decide +kernel)
theorem qw_523 : Cond.selects RJ0 yJ0_length_8abf5 yJ0_length_8abf5 ∈ BIG := big_at 523 (by decide +kernel) (by decide +kernel)
theorem qw_524 : Cond.code yJ0_length_8abf5 cJ0_length_8abf5 1 (some .int) ∈ BIG := big_at 524 (by decide +kernel) (by decide +kernel)
theorem qw_525 : Cond.methodLink RJ0 335 yJ0_coder_7d493 ∈ BIG := big_at 525 (by decide +kernel) (by decide +kernel)
theorem qw_526 : Cond.instanceMethod yJ0_coder_7d493 ∈ BIG := big_at 526 (by decide +kernel) (by decide +kernel)
theorem qw_527 : Cond.selects RJ0 yJ0_coder_7d493 yJ0_coder_7d493 ∈ BIG := big_at 527 (by decide +kernel) (by decide +kernel)
theorem qw_528 : Cond.code yJ0_coder_7d493 cJ0_coder_7d493 1 (some .byte) ∈ BIG := big_at 528 (by decide +kernel) (by decide +kernel)
theorem qw_529 : Cond.fieldLink RJ0 38 "java/lang/String" "COMPACT_STRINGS" "Z" ∈ BIG := big_at 529 (by decide +kernel) (by decide +kernel)
theorem qw_531 : Cond.methodLink RX3 57 yJ0_charAt_5068e ∈ BIG := big_at 531 (by decide +kernel) (by decide +kernel)
theorem qw_532 : Cond.instanceMethod yJ0_charAt_5068e ∈ BIG := big_at 532 (by decide +kernel) (by decide +kernel)
theorem qw_533 : Cond.selects RJ0 yJ0_charAt_5068e yJ0_charAt_5068e ∈ BIG := big_at 533 (by decide +kernel) (by decide +kernel)
theorem qw_534 : Cond.code yJ0_charAt_5068e cJ0_charAt_5068e 2 (some .char) ∈ BIG := big_at 534 (by decide +kernel) (by decide +kernel)
theorem qw_535 : Cond.methodLink RJ0 492 yJ0_isLatin1_aae02 ∈ BIG := big_at 535 (by decide +kernel) (by decide +kernel)
theorem qw_536 : Cond.instanceMethod yJ0_isLatin1_aae02 ∈ BIG := big_at 536 (by decide +kernel) (by decide +kernel)
theorem qw_537 : Cond.selects RJ0 yJ0_isLatin1_aae02 yJ0_isLatin1_aae02 ∈ BIG := big_at 537 (by decide +kernel) (by decide +kernel)
theorem qw_538 : Cond.code yJ0_isLatin1_aae02 cJ0_isLatin1_aae02 1 (some .boolean) ∈ BIG := big_at 538 (by decide +kernel) (by decide +kernel)
theorem qw_539 : Cond.methodLink RJ0 495 yJ1_charAt_3b067 ∈ BIG := big_at 539 (by decide +kernel) (by decide +kernel)
theorem qw_540 : Cond.static yJ1_charAt_3b067 ∈ BIG := big_at 540 (by decide +kernel) (by decide +kernel)
theorem qw_541 : Cond.code yJ1_charAt_3b067 cJ1_charAt_3b067 2 (some .char) ∈ BIG := big_at 541 (by decide +kernel) (by decide +kernel)
theorem qw_542 : Cond.methodLink RJ1 9 yJ0_checkIndex_df160 ∈ BIG := big_at 542 (by decide +kernel) (by decide +kernel)
theorem qw_543 : Cond.static yJ0_checkIndex_df160 ∈ BIG := big_at 543 (by decide +kernel) (by decide +kernel)
theorem qw_544 : Cond.code yJ0_checkIndex_df160 cJ0_checkIndex_df160 2 none ∈ BIG := big_at 544 (by decide +kernel) (by decide +kernel)
theorem qw_545 : Cond.fieldLink RJ0 1053 "jdk/internal/util/Preconditions" "SIOOBE_FORMATTER" "Ljava/util/function/BiFunction;" ∈ BIG := big_at 545 (by decide +kernel) (by decide +kernel)
theorem qw_547 : Cond.methodLink RJ0 1059 yJ3_checkIndex_8e157 ∈ BIG := big_at 547 (by decide +kernel) (by decide +kernel)
theorem qw_548 : Cond.static yJ3_checkIndex_8e157 ∈ BIG := big_at 548 (by decide +kernel) (by decide +kernel)
theorem qw_549 : Cond.code yJ3_checkIndex_8e157 cJ3_checkIndex_8e157 3 (some .int) ∈ BIG := big_at 549 (by decide +kernel) (by decide +kernel)
theorem qw_550 : Cond.methodLink RJ0 498 yJ2_charAt_3b067 ∈ BIG := big_at 550 (by decide +kernel) (by decide +kernel)
theorem qw_551 : Cond.static yJ2_charAt_3b067 ∈ BIG := big_at 551 (by decide +kernel) (by decide +kernel)
theorem qw_552 : Cond.code yJ2_charAt_3b067 cJ2_charAt_3b067 2 (some .char) ∈ BIG := big_at 552 (by decide +kernel) (by decide +kernel)
theorem qw_553 : Cond.methodLink RJ2 67 yJ2_checkIndex_2214a ∈ BIG := big_at 553 (by decide +kernel) (by decide +kernel)
theorem qw_554 : Cond.static yJ2_checkIndex_2214a ∈ BIG := big_at 554 (by decide +kernel) (by decide +kernel)
theorem qw_555 : Cond.code yJ2_checkIndex_2214a cJ2_checkIndex_2214a 2 none ∈ BIG := big_at 555 (by decide +kernel) (by decide +kernel)
theorem qw_556 : Cond.methodLink RJ2 48 yJ2_length_9d52b ∈ BIG := big_at 556 (by decide +kernel) (by decide +kernel)
theorem qw_557 : Cond.static yJ2_length_9d52b ∈ BIG := big_at 557 (by decide +kernel) (by decide +kernel)
theorem qw_558 : Cond.code yJ2_length_9d52b cJ2_length_9d52b 1 (some .int) ∈ BIG := big_at 558 (by decide +kernel) (by decide +kernel)
theorem qw_559 : Cond.methodLink RJ2 414 yJ0_checkIndex_df160 ∈ BIG := big_at 559 (by decide +kernel) (by decide +kernel)
theorem qw_560 : Cond.methodLink RJ2 71 yJ2_getChar_3b067 ∈ BIG := big_at 560 (by decide +kernel) (by decide +kernel)
theorem qw_561 : Cond.static yJ2_getChar_3b067 ∈ BIG := big_at 561 (by decide +kernel) (by decide +kernel)
theorem qw_562 : Cond.code yJ2_getChar_3b067 cJ2_getChar_3b067 2 (some .char) ∈ BIG := big_at 562 (by decide +kernel) (by decide +kernel)
theorem qw_563 : Cond.fieldLink RJ2 44 "java/lang/StringUTF16" "$assertionsDisabled" "Z" ∈ BIG := big_at 563 (by decide +kernel) (by decide +kernel)
theorem qw_565 : Cond.fieldLink RJ2 59 "java/lang/StringUTF16" "HI_BYTE_SHIFT" "I" ∈ BIG := big_at 565 (by decide +kernel) (by decide +kernel)
theorem qw_567 : Cond.fieldLink RJ2 63 "java/lang/StringUTF16" "LO_BYTE_SHIFT" "I" ∈ BIG := big_at 567 (by decide +kernel) (by decide +kernel)
theorem qw_569 : Cond.methodLink RX3 84 yX3_takeEwe ∈ BIG := big_at 569 (by decide +kernel) (by decide +kernel)
theorem qw_571 : Cond.instanceMethod yX3_takeEwe ∈ BIG := big_at 571 (by decide +kernel) (by decide +kernel)
theorem qw_572 : Cond.code yX3_takeEwe cX3_takeEwe 4 (some .boolean) ∈ BIG := big_at 572 (by decide +kernel) (by decide +kernel)
theorem qw_573 : Cond.methodLink RX3 105 yX1_isFull ∈ BIG := big_at 573 (by decide +kernel) (by decide +kernel)
theorem qw_575 : Cond.methodLink RX3 113 yX3_takeNumber ∈ BIG := big_at 575 (by decide +kernel) (by decide +kernel)
theorem qw_577 : Cond.instanceMethod yX3_takeNumber ∈ BIG := big_at 577 (by decide +kernel) (by decide +kernel)
theorem qw_578 : Cond.code yX3_takeNumber cX3_takeNumber 3 (some .int) ∈ BIG := big_at 578 (by decide +kernel) (by decide +kernel)
theorem qw_579 : Cond.methodLink RX3 117 yX1_add ∈ BIG := big_at 579 (by decide +kernel) (by decide +kernel)
theorem qw_581 : Cond.methodLink RX3 90 yX3_takeWeather ∈ BIG := big_at 581 (by decide +kernel) (by decide +kernel)
theorem qw_583 : Cond.instanceMethod yX3_takeWeather ∈ BIG := big_at 583 (by decide +kernel) (by decide +kernel)
theorem qw_584 : Cond.code yX3_takeWeather cX3_takeWeather 5 (some .boolean) ∈ BIG := big_at 584 (by decide +kernel) (by decide +kernel)
theorem qw_587 : Cond.methodLink RX3 97 yX3_takeCut ∈ BIG := big_at 587 (by decide +kernel) (by decide +kernel)
theorem qw_589 : Cond.instanceMethod yX3_takeCut ∈ BIG := big_at 589 (by decide +kernel) (by decide +kernel)
theorem qw_590 : Cond.code yX3_takeCut cX3_takeCut 5 (some .boolean) ∈ BIG := big_at 590 (by decide +kernel) (by decide +kernel)
theorem qw_591 : Cond.methodLink RX3 127 yX1_roomInCoat ∈ BIG := big_at 591 (by decide +kernel) (by decide +kernel)
theorem qw_592 : Cond.methodLink RX3 130 yX1_cutFor ∈ BIG := big_at 592 (by decide +kernel) (by decide +kernel)
theorem qw_594 : Cond.methodLink RX3 102 yX3_takeStore ∈ BIG := big_at 594 (by decide +kernel) (by decide +kernel)
theorem qw_596 : Cond.instanceMethod yX3_takeStore ∈ BIG := big_at 596 (by decide +kernel) (by decide +kernel)
theorem qw_597 : Cond.code yX3_takeStore cX3_takeStore 4 (some .boolean) ∈ BIG := big_at 597 (by decide +kernel) (by decide +kernel)
theorem qw_598 : Cond.methodLink RL 125 yX4_sheet ∈ BIG := big_at 598 (by decide +kernel) (by decide +kernel)
theorem qw_599 : Cond.instanceMethod yX4_sheet ∈ BIG := big_at 599 (by decide +kernel) (by decide +kernel)
theorem qw_600 : Cond.selects RX4 yX4_sheet yX4_sheet ∈ BIG := big_at 600 (by decide +kernel) (by decide +kernel)
theorem qw_601 : Cond.code yX4_sheet cX4_sheet 4 (some .int) ∈ BIG := big_at 601 (by decide +kernel) (by decide +kernel)
theorem qw_602 : Cond.methodLink RX4 195 yX4_isSheet ∈ BIG := big_at 602 (by decide +kernel) (by decide +kernel)
theorem qw_603 : Cond.static yX4_isSheet ∈ BIG := big_at 603 (by decide +kernel) (by decide +kernel)
theorem qw_604 : Cond.code yX4_isSheet cX4_isSheet 1 (some .boolean) ∈ BIG := big_at 604 (by decide +kernel) (by decide +kernel)
theorem qw_605 : Cond.methodLink RX4 198 yX2_lay ∈ BIG := big_at 605 (by decide +kernel) (by decide +kernel)
theorem qw_606 : Cond.instanceMethod yX2_lay ∈ BIG := big_at 606 (by decide +kernel) (by decide +kernel)
theorem qw_607 : Cond.selects RX2 yX2_lay yX2_lay ∈ BIG := big_at 607 (by decide +kernel) (by decide +kernel)
theorem qw_608 : Cond.code yX2_lay cX2_lay 3 none ∈ BIG := big_at 608 (by decide +kernel) (by decide +kernel)
theorem qw_609 : Cond.methodLink RX2 22 yJ7_fill_d0a16 ∈ BIG := big_at 609 (by decide +kernel) (by decide +kernel)
theorem qw_610 : Cond.static yJ7_fill_d0a16 ∈ BIG := big_at 610 (by decide +kernel) (by decide +kernel)
theorem qw_611 : Cond.code yJ7_fill_d0a16 cJ7_fill_d0a16 5 none ∈ BIG := big_at 611 (by decide +kernel) (by decide +kernel)
theorem qw_612 : Cond.methodLink RL 131 yX4_write ∈ BIG := big_at 612 (by decide +kernel) (by decide +kernel)
theorem qw_613 : Cond.instanceMethod yX4_write ∈ BIG := big_at 613 (by decide +kernel) (by decide +kernel)
theorem qw_614 : Cond.selects RX4 yX4_write yX4_write ∈ BIG := big_at 614 (by decide +kernel) (by decide +kernel)
theorem qw_615 : Cond.code yX4_write cX4_write 8 (some .long) ∈ BIG := big_at 615 (by decide +kernel) (by decide +kernel)
theorem qw_616 : Cond.methodLink RX4 202 yX2_isMissing ∈ BIG := big_at 616 (by decide +kernel) (by decide +kernel)
theorem qw_617 : Cond.instanceMethod yX2_isMissing ∈ BIG := big_at 617 (by decide +kernel) (by decide +kernel)
theorem qw_618 : Cond.selects RX2 yX2_isMissing yX2_isMissing ∈ BIG := big_at 618 (by decide +kernel) (by decide +kernel)
theorem qw_619 : Cond.code yX2_isMissing cX2_isMissing 1 (some .boolean) ∈ BIG := big_at 619 (by decide +kernel) (by decide +kernel)
theorem qw_620 : Cond.methodLink RX4 209 yX2_put ∈ BIG := big_at 620 (by decide +kernel) (by decide +kernel)
theorem qw_621 : Cond.instanceMethod yX2_put ∈ BIG := big_at 621 (by decide +kernel) (by decide +kernel)
theorem qw_622 : Cond.selects RX2 yX2_put yX2_put ∈ BIG := big_at 622 (by decide +kernel) (by decide +kernel)
theorem qw_623 : Cond.code yX2_put cX2_put 4 none ∈ BIG := big_at 623 (by decide +kernel) (by decide +kernel)
theorem qw_624 : Cond.methodLink RL 136 yX4_copy ∈ BIG := big_at 624 (by decide +kernel) (by decide +kernel)
theorem qw_625 : Cond.instanceMethod yX4_copy ∈ BIG := big_at 625 (by decide +kernel) (by decide +kernel)
theorem qw_626 : Cond.selects RX4 yX4_copy yX4_copy ∈ BIG := big_at 626 (by decide +kernel) (by decide +kernel)
theorem qw_627 : Cond.code yX4_copy cX4_copy 8 (some .int) ∈ BIG := big_at 627 (by decide +kernel) (by decide +kernel)
theorem qw_628 : Cond.methodLink RX4 216 yX2_has ∈ BIG := big_at 628 (by decide +kernel) (by decide +kernel)
theorem qw_629 : Cond.instanceMethod yX2_has ∈ BIG := big_at 629 (by decide +kernel) (by decide +kernel)
theorem qw_630 : Cond.selects RX2 yX2_has yX2_has ∈ BIG := big_at 630 (by decide +kernel) (by decide +kernel)
theorem qw_631 : Cond.code yX2_has cX2_has 3 (some .boolean) ∈ BIG := big_at 631 (by decide +kernel) (by decide +kernel)
theorem qw_632 : Cond.methodLink RX4 219 arraycopyName ∈ BIG := big_at 632 (by decide +kernel) (by decide +kernel)
theorem qw_633 : Cond.methodLink RL 141 yX4_lays ∈ BIG := big_at 633 (by decide +kernel) (by decide +kernel)
theorem qw_634 : Cond.instanceMethod yX4_lays ∈ BIG := big_at 634 (by decide +kernel) (by decide +kernel)
theorem qw_635 : Cond.selects RX4 yX4_lays yX4_lays ∈ BIG := big_at 635 (by decide +kernel) (by decide +kernel)
theorem qw_636 : Cond.code yX4_lays cX4_lays 7 (some .int) ∈ BIG := big_at 636 (by decide +kernel) (by decide +kernel)
theorem qw_637 : Cond.constantLong RX4 225 (-20) ∈ BIG := big_at 637 (by decide +kernel) (by decide +kernel)
theorem qw_638 : Cond.constantLong RX4 227 (20) ∈ BIG := big_at 638 (by decide +kernel) (by decide +kernel)
theorem qw_639 : Cond.methodLink RL 145 yX4_book ∈ BIG := big_at 639 (by decide +kernel) (by decide +kernel)
theorem qw_640 : Cond.instanceMethod yX4_book ∈ BIG := big_at 640 (by decide +kernel) (by decide +kernel)
theorem qw_641 : Cond.selects RX4 yX4_book yX4_book ∈ BIG := big_at 641 (by decide +kernel) (by decide +kernel)
theorem qw_642 : Cond.code yX4_book cX4_book 5 (some .int) ∈ BIG := big_at 642 (by decide +kernel) (by decide +kernel)
theorem qw_643 : Cond.methodLink RL 149 yX4_read ∈ BIG := big_at 643 (by decide +kernel) (by decide +kernel)
theorem qw_644 : Cond.instanceMethod yX4_read ∈ BIG := big_at 644 (by decide +kernel) (by decide +kernel)
theorem qw_645 : Cond.selects RX4 yX4_read yX4_read ∈ BIG := big_at 645 (by decide +kernel) (by decide +kernel)
theorem qw_646 : Cond.code yX4_read cX4_read 7 (some .int) ∈ BIG := big_at 646 (by decide +kernel) (by decide +kernel)
theorem qw_647 : Cond.methodLink RX4 232 yX4_growsAsTold ∈ BIG := big_at 647 (by decide +kernel) (by decide +kernel)
theorem qw_649 : Cond.instanceMethod yX4_growsAsTold ∈ BIG := big_at 649 (by decide +kernel) (by decide +kernel)
theorem qw_650 : Cond.code yX4_growsAsTold cX4_growsAsTold 3 (some .boolean) ∈ BIG := big_at 650 (by decide +kernel) (by decide +kernel)
theorem qw_651 : Cond.methodLink RL 153 yX4_image ∈ BIG := big_at 651 (by decide +kernel) (by decide +kernel)
theorem qw_652 : Cond.instanceMethod yX4_image ∈ BIG := big_at 652 (by decide +kernel) (by decide +kernel)
theorem qw_653 : Cond.selects RX4 yX4_image yX4_image ∈ BIG := big_at 653 (by decide +kernel) (by decide +kernel)
theorem qw_654 : Cond.code yX4_image cX4_image 1 (some .int) ∈ BIG := big_at 654 (by decide +kernel) (by decide +kernel)
theorem qw_655 : Cond.methodLink RL 157 yX4_undo ∈ BIG := big_at 655 (by decide +kernel) (by decide +kernel)
theorem qw_656 : Cond.instanceMethod yX4_undo ∈ BIG := big_at 656 (by decide +kernel) (by decide +kernel)
theorem qw_657 : Cond.selects RX4 yX4_undo yX4_undo ∈ BIG := big_at 657 (by decide +kernel) (by decide +kernel)
theorem qw_658 : Cond.code yX4_undo cX4_undo 1 (some .int) ∈ BIG := big_at 658 (by decide +kernel) (by decide +kernel)
theorem qw_659 : Cond.methodLink RL 161 yX4_tear ∈ BIG := big_at 659 (by decide +kernel) (by decide +kernel)
theorem qw_660 : Cond.instanceMethod yX4_tear ∈ BIG := big_at 660 (by decide +kernel) (by decide +kernel)
theorem qw_661 : Cond.selects RX4 yX4_tear yX4_tear ∈ BIG := big_at 661 (by decide +kernel) (by decide +kernel)
theorem qw_662 : Cond.code yX4_tear cX4_tear 2 (some .int) ∈ BIG := big_at 662 (by decide +kernel) (by decide +kernel)
theorem qw_663 : Cond.methodLink RL 165 yX4_count ∈ BIG := big_at 663 (by decide +kernel) (by decide +kernel)
theorem qw_664 : Cond.instanceMethod yX4_count ∈ BIG := big_at 664 (by decide +kernel) (by decide +kernel)
theorem qw_665 : Cond.selects RX4 yX4_count yX4_count ∈ BIG := big_at 665 (by decide +kernel) (by decide +kernel)
theorem qw_666 : Cond.code yX4_count cX4_count 2 (some .int) ∈ BIG := big_at 666 (by decide +kernel) (by decide +kernel)
theorem qw_667 : Cond.methodLink RX4 240 yX1_coatsWithWool ∈ BIG := big_at 667 (by decide +kernel) (by decide +kernel)
theorem qw_668 : Cond.instanceMethod yX1_coatsWithWool ∈ BIG := big_at 668 (by decide +kernel) (by decide +kernel)
theorem qw_669 : Cond.selects RX1 yX1_coatsWithWool yX1_coatsWithWool ∈ BIG := big_at 669 (by decide +kernel) (by decide +kernel)
theorem qw_670 : Cond.code yX1_coatsWithWool cX1_coatsWithWool 3 (some .int) ∈ BIG := big_at 670 (by decide +kernel) (by decide +kernel)
theorem qw_671 : Cond.methodLink RX1 92 yX1_monthsInCoat ∈ BIG := big_at 671 (by decide +kernel) (by decide +kernel)
theorem qw_672 : Cond.methodLink RX4 243 yX1_frightOfAll ∈ BIG := big_at 672 (by decide +kernel) (by decide +kernel)
theorem qw_673 : Cond.instanceMethod yX1_frightOfAll ∈ BIG := big_at 673 (by decide +kernel) (by decide +kernel)
theorem qw_674 : Cond.selects RX1 yX1_frightOfAll yX1_frightOfAll ∈ BIG := big_at 674 (by decide +kernel) (by decide +kernel)
theorem qw_675 : Cond.code yX1_frightOfAll cX1_frightOfAll 3 (some .int) ∈ BIG := big_at 675 (by decide +kernel) (by decide +kernel)
theorem qw_676 : Cond.methodLink RL 169 yX4_status ∈ BIG := big_at 676 (by decide +kernel) (by decide +kernel)
theorem qw_677 : Cond.instanceMethod yX4_status ∈ BIG := big_at 677 (by decide +kernel) (by decide +kernel)
theorem qw_678 : Cond.selects RX4 yX4_status yX4_status ∈ BIG := big_at 678 (by decide +kernel) (by decide +kernel)
theorem qw_679 : Cond.code yX4_status cX4_status 2 (some .int) ∈ BIG := big_at 679 (by decide +kernel) (by decide +kernel)
theorem qw_680 : Cond.classLink RL 10 RX5 ∈ BIG := big_at 680 (by decide +kernel) (by decide +kernel)
theorem qw_681 : Cond.instantiable RX5 16 ∈ BIG := big_at 681 (by decide +kernel) (by decide +kernel)
theorem qw_682 : Cond.methodLink RL 12 yX5_init ∈ BIG := big_at 682 (by decide +kernel) (by decide +kernel)
theorem qw_683 : Cond.instanceMethod yX5_init ∈ BIG := big_at 683 (by decide +kernel) (by decide +kernel)
theorem qw_684 : Cond.code yX5_init cX5_init 2 none ∈ BIG := big_at 684 (by decide +kernel) (by decide +kernel)
theorem qw_685 : Cond.methodLink RX5 1 objectInit ∈ BIG := big_at 685 (by decide +kernel) (by decide +kernel)
theorem qw_686 : Cond.fieldLink RX5 7 "ShornYearModel" "s" "[I" ∈ BIG := big_at 686 (by decide +kernel) (by decide +kernel)
theorem qw_687 : Cond.fieldLink RX5 13 "ShornYearModel" "keptS" "[I" ∈ BIG := big_at 687 (by decide +kernel) (by decide +kernel)
theorem qw_688 : Cond.fieldLink RX5 16 "ShornYearModel" "other" "[I" ∈ BIG := big_at 688 (by decide +kernel) (by decide +kernel)
theorem qw_689 : Cond.fieldLink RX5 19 "ShornYearModel" "aside" "[I" ∈ BIG := big_at 689 (by decide +kernel) (by decide +kernel)
theorem qw_690 : Cond.fieldLink RX5 22 "ShornYearModel" "statuses" "[I" ∈ BIG := big_at 690 (by decide +kernel) (by decide +kernel)
theorem qw_691 : Cond.fieldLink RX5 304 "ShornYearModel" "isKept" "Z" ∈ BIG := big_at 691 (by decide +kernel) (by decide +kernel)
theorem qw_692 : Cond.fieldLink RX5 25 "ShornYearModel" "tape" "[I" ∈ BIG := big_at 692 (by decide +kernel) (by decide +kernel)
theorem qw_693 : Cond.fieldLink RX5 190 "ShornYearModel" "taped" "I" ∈ BIG := big_at 693 (by decide +kernel) (by decide +kernel)
theorem qw_694 : Cond.fieldLink RX5 205 "ShornYearModel" "from" "I" ∈ BIG := big_at 694 (by decide +kernel) (by decide +kernel)
theorem qw_695 : Cond.fieldLink RX5 202 "ShornYearModel" "to" "I" ∈ BIG := big_at 695 (by decide +kernel) (by decide +kernel)
theorem qw_696 : Cond.fieldLink RX5 228 "ShornYearModel" "value" "I" ∈ BIG := big_at 696 (by decide +kernel) (by decide +kernel)
theorem qw_697 : Cond.fieldLink RX5 217 "ShornYearModel" "isWrong" "Z" ∈ BIG := big_at 697 (by decide +kernel) (by decide +kernel)
theorem qw_698 : Cond.fieldLink RX5 28 "ShornYearModel" "bitsOf" "[I" ∈ BIG := big_at 698 (by decide +kernel) (by decide +kernel)
theorem qw_699 : Cond.fieldLink RX5 31 "ShornYearModel" "sizeOf" "[I" ∈ BIG := big_at 699 (by decide +kernel) (by decide +kernel)
theorem qw_700 : Cond.fieldLink RX5 34 "ShornYearModel" "numbers" "[J" ∈ BIG := big_at 700 (by decide +kernel) (by decide +kernel)
theorem qw_701 : Cond.fieldLink RX5 38 "ShornYearModel" "moved" "[J" ∈ BIG := big_at 701 (by decide +kernel) (by decide +kernel)
theorem qw_735 : Cond.methodLink RL 17 yX5_weather ∈ BIG := big_at 735 (by decide +kernel) (by decide +kernel)
theorem qw_736 : Cond.instanceMethod yX5_weather ∈ BIG := big_at 736 (by decide +kernel) (by decide +kernel)
theorem qw_737 : Cond.selects RX5 yX5_weather yX5_weather ∈ BIG := big_at 737 (by decide +kernel) (by decide +kernel)
theorem qw_738 : Cond.code yX5_weather cX5_weather 3 (some .int) ∈ BIG := big_at 738 (by decide +kernel) (by decide +kernel)
theorem qw_739 : Cond.methodLink RX5 67 yX5_isMonth ∈ BIG := big_at 739 (by decide +kernel) (by decide +kernel)
theorem qw_740 : Cond.static yX5_isMonth ∈ BIG := big_at 740 (by decide +kernel) (by decide +kernel)
theorem qw_741 : Cond.code yX5_isMonth cX5_isMonth 1 (some .boolean) ∈ BIG := big_at 741 (by decide +kernel) (by decide +kernel)
theorem qw_742 : Cond.constantLong RX5 50 (11) ∈ BIG := big_at 742 (by decide +kernel) (by decide +kernel)
theorem qw_743 : Cond.methodLink RX5 46 yX5_in ∈ BIG := big_at 743 (by decide +kernel) (by decide +kernel)
theorem qw_744 : Cond.static yX5_in ∈ BIG := big_at 744 (by decide +kernel) (by decide +kernel)
theorem qw_745 : Cond.code yX5_in cX5_in 6 (some .boolean) ∈ BIG := big_at 745 (by decide +kernel) (by decide +kernel)
theorem qw_746 : Cond.methodLink RX5 71 yX5_isWeather ∈ BIG := big_at 746 (by decide +kernel) (by decide +kernel)
theorem qw_747 : Cond.static yX5_isWeather ∈ BIG := big_at 747 (by decide +kernel) (by decide +kernel)
theorem qw_748 : Cond.code yX5_isWeather cX5_isWeather 2 (some .boolean) ∈ BIG := big_at 748 (by decide +kernel) (by decide +kernel)
theorem qw_749 : Cond.constantLong RX5 56 (-20) ∈ BIG := big_at 749 (by decide +kernel) (by decide +kernel)
theorem qw_750 : Cond.constantLong RX5 58 (20) ∈ BIG := big_at 750 (by decide +kernel) (by decide +kernel)
theorem qw_751 : Cond.methodLink RX5 75 yX5_becomes ∈ BIG := big_at 751 (by decide +kernel) (by decide +kernel)
theorem qw_753 : Cond.instanceMethod yX5_becomes ∈ BIG := big_at 753 (by decide +kernel) (by decide +kernel)
theorem qw_754 : Cond.code yX5_becomes cX5_becomes 4 (some .int) ∈ BIG := big_at 754 (by decide +kernel) (by decide +kernel)
theorem qw_755 : Cond.constant RX5 41 (-1000000001) ∈ BIG := big_at 755 (by decide +kernel) (by decide +kernel)
theorem qw_756 : Cond.methodLink RX5 78 yX5_finds ∈ BIG := big_at 756 (by decide +kernel) (by decide +kernel)
theorem qw_758 : Cond.instanceMethod yX5_finds ∈ BIG := big_at 758 (by decide +kernel) (by decide +kernel)
theorem qw_759 : Cond.code yX5_finds cX5_finds 2 (some .int) ∈ BIG := big_at 759 (by decide +kernel) (by decide +kernel)
theorem qw_760 : Cond.methodLink RL 21 yX5_monthOf ∈ BIG := big_at 760 (by decide +kernel) (by decide +kernel)
theorem qw_761 : Cond.instanceMethod yX5_monthOf ∈ BIG := big_at 761 (by decide +kernel) (by decide +kernel)
theorem qw_762 : Cond.selects RX5 yX5_monthOf yX5_monthOf ∈ BIG := big_at 762 (by decide +kernel) (by decide +kernel)
theorem qw_763 : Cond.code yX5_monthOf cX5_monthOf 3 (some .int) ∈ BIG := big_at 763 (by decide +kernel) (by decide +kernel)
theorem qw_764 : Cond.constantLong RX5 81 (2) ∈ BIG := big_at 764 (by decide +kernel) (by decide +kernel)
theorem qw_765 : Cond.methodLink RL 26 yX5_now ∈ BIG := big_at 765 (by decide +kernel) (by decide +kernel)
theorem qw_766 : Cond.instanceMethod yX5_now ∈ BIG := big_at 766 (by decide +kernel) (by decide +kernel)
theorem qw_767 : Cond.selects RX5 yX5_now yX5_now ∈ BIG := big_at 767 (by decide +kernel) (by decide +kernel)
theorem qw_768 : Cond.code yX5_now cX5_now 2 (some .int) ∈ BIG := big_at 768 (by decide +kernel) (by decide +kernel)
theorem qw_769 : Cond.methodLink RX5 83 yX5_ofYear ∈ BIG := big_at 769 (by decide +kernel) (by decide +kernel)
theorem qw_771 : Cond.instanceMethod yX5_ofYear ∈ BIG := big_at 771 (by decide +kernel) (by decide +kernel)
theorem qw_772 : Cond.code yX5_ofYear cX5_ofYear 1 (some .int) ∈ BIG := big_at 772 (by decide +kernel) (by decide +kernel)
theorem qw_773 : Cond.methodLink RX5 60 yX5_twelve ∈ BIG := big_at 773 (by decide +kernel) (by decide +kernel)
theorem qw_775 : Cond.instanceMethod yX5_twelve ∈ BIG := big_at 775 (by decide +kernel) (by decide +kernel)
theorem qw_776 : Cond.code yX5_twelve cX5_twelve 4 (some .int) ∈ BIG := big_at 776 (by decide +kernel) (by decide +kernel)
theorem qw_777 : Cond.methodLink RX5 87 yX5_fleeces ∈ BIG := big_at 777 (by decide +kernel) (by decide +kernel)
theorem qw_779 : Cond.instanceMethod yX5_fleeces ∈ BIG := big_at 779 (by decide +kernel) (by decide +kernel)
theorem qw_780 : Cond.code yX5_fleeces cX5_fleeces 3 (some .int) ∈ BIG := big_at 780 (by decide +kernel) (by decide +kernel)
theorem qw_781 : Cond.methodLink RX5 64 yX5_woolOf ∈ BIG := big_at 781 (by decide +kernel) (by decide +kernel)
theorem qw_783 : Cond.instanceMethod yX5_woolOf ∈ BIG := big_at 783 (by decide +kernel) (by decide +kernel)
theorem qw_784 : Cond.code yX5_woolOf cX5_woolOf 2 (some .int) ∈ BIG := big_at 784 (by decide +kernel) (by decide +kernel)
theorem qw_785 : Cond.methodLink RX5 42 yX5_spot ∈ BIG := big_at 785 (by decide +kernel) (by decide +kernel)
theorem qw_786 : Cond.static yX5_spot ∈ BIG := big_at 786 (by decide +kernel) (by decide +kernel)
theorem qw_787 : Cond.code yX5_spot cX5_spot 2 (some .int) ∈ BIG := big_at 787 (by decide +kernel) (by decide +kernel)
theorem qw_788 : Cond.methodLink RL 30 yX5_ewe ∈ BIG := big_at 788 (by decide +kernel) (by decide +kernel)
theorem qw_789 : Cond.instanceMethod yX5_ewe ∈ BIG := big_at 789 (by decide +kernel) (by decide +kernel)
theorem qw_790 : Cond.selects RX5 yX5_ewe yX5_ewe ∈ BIG := big_at 790 (by decide +kernel) (by decide +kernel)
theorem qw_791 : Cond.code yX5_ewe cX5_ewe 2 (some .int) ∈ BIG := big_at 791 (by decide +kernel) (by decide +kernel)
theorem qw_792 : Cond.methodLink RX5 93 yX5_isKind ∈ BIG := big_at 792 (by decide +kernel) (by decide +kernel)
theorem qw_793 : Cond.static yX5_isKind ∈ BIG := big_at 793 (by decide +kernel) (by decide +kernel)
theorem qw_794 : Cond.code yX5_isKind cX5_isKind 1 (some .boolean) ∈ BIG := big_at 794 (by decide +kernel) (by decide +kernel)
theorem qw_795 : Cond.constantLong RX5 54 (5) ∈ BIG := big_at 795 (by decide +kernel) (by decide +kernel)
theorem qw_796 : Cond.constant RX5 96 (-1000000002) ∈ BIG := big_at 796 (by decide +kernel) (by decide +kernel)
theorem qw_797 : Cond.methodLink RX5 97 yX5_adds ∈ BIG := big_at 797 (by decide +kernel) (by decide +kernel)
theorem qw_799 : Cond.instanceMethod yX5_adds ∈ BIG := big_at 799 (by decide +kernel) (by decide +kernel)
theorem qw_800 : Cond.code yX5_adds cX5_adds 4 (some .int) ∈ BIG := big_at 800 (by decide +kernel) (by decide +kernel)
theorem qw_801 : Cond.methodLink RL 34 yX5_of ∈ BIG := big_at 801 (by decide +kernel) (by decide +kernel)
theorem qw_802 : Cond.instanceMethod yX5_of ∈ BIG := big_at 802 (by decide +kernel) (by decide +kernel)
theorem qw_803 : Cond.selects RX5 yX5_of yX5_of ∈ BIG := big_at 803 (by decide +kernel) (by decide +kernel)
theorem qw_804 : Cond.code yX5_of cX5_of 3 (some .int) ∈ BIG := big_at 804 (by decide +kernel) (by decide +kernel)
theorem qw_805 : Cond.methodLink RX5 100 yX5_isEwe ∈ BIG := big_at 805 (by decide +kernel) (by decide +kernel)
theorem qw_807 : Cond.instanceMethod yX5_isEwe ∈ BIG := big_at 807 (by decide +kernel) (by decide +kernel)
theorem qw_808 : Cond.code yX5_isEwe cX5_isEwe 2 (some .boolean) ∈ BIG := big_at 808 (by decide +kernel) (by decide +kernel)
theorem qw_809 : Cond.constantLong RX5 52 (3) ∈ BIG := big_at 809 (by decide +kernel) (by decide +kernel)
theorem qw_810 : Cond.methodLink RX5 90 yX5_its ∈ BIG := big_at 810 (by decide +kernel) (by decide +kernel)
theorem qw_812 : Cond.instanceMethod yX5_its ∈ BIG := big_at 812 (by decide +kernel) (by decide +kernel)
theorem qw_813 : Cond.code yX5_its cX5_its 3 (some .int) ∈ BIG := big_at 813 (by decide +kernel) (by decide +kernel)
theorem qw_814 : Cond.methodLink RX5 103 yX5_calmsOf ∈ BIG := big_at 814 (by decide +kernel) (by decide +kernel)
theorem qw_816 : Cond.instanceMethod yX5_calmsOf ∈ BIG := big_at 816 (by decide +kernel) (by decide +kernel)
theorem qw_817 : Cond.code yX5_calmsOf cX5_calmsOf 2 (some .int) ∈ BIG := big_at 817 (by decide +kernel) (by decide +kernel)
theorem qw_818 : Cond.methodLink RL 38 yX5_fleece ∈ BIG := big_at 818 (by decide +kernel) (by decide +kernel)
theorem qw_819 : Cond.instanceMethod yX5_fleece ∈ BIG := big_at 819 (by decide +kernel) (by decide +kernel)
theorem qw_820 : Cond.selects RX5 yX5_fleece yX5_fleece ∈ BIG := big_at 820 (by decide +kernel) (by decide +kernel)
theorem qw_821 : Cond.code yX5_fleece cX5_fleece 3 (some .int) ∈ BIG := big_at 821 (by decide +kernel) (by decide +kernel)
theorem qw_822 : Cond.methodLink RL 43 yX5_can ∈ BIG := big_at 822 (by decide +kernel) (by decide +kernel)
theorem qw_823 : Cond.instanceMethod yX5_can ∈ BIG := big_at 823 (by decide +kernel) (by decide +kernel)
theorem qw_824 : Cond.selects RX5 yX5_can yX5_can ∈ BIG := big_at 824 (by decide +kernel) (by decide +kernel)
theorem qw_825 : Cond.code yX5_can cX5_can 4 (some .int) ∈ BIG := big_at 825 (by decide +kernel) (by decide +kernel)
theorem qw_826 : Cond.methodLink RX5 106 yX5_growsIn ∈ BIG := big_at 826 (by decide +kernel) (by decide +kernel)
theorem qw_828 : Cond.instanceMethod yX5_growsIn ∈ BIG := big_at 828 (by decide +kernel) (by decide +kernel)
theorem qw_829 : Cond.code yX5_growsIn cX5_growsIn 4 (some .int) ∈ BIG := big_at 829 (by decide +kernel) (by decide +kernel)
theorem qw_830 : Cond.methodLink RX5 109 yX5_losesOf ∈ BIG := big_at 830 (by decide +kernel) (by decide +kernel)
theorem qw_832 : Cond.instanceMethod yX5_losesOf ∈ BIG := big_at 832 (by decide +kernel) (by decide +kernel)
theorem qw_833 : Cond.code yX5_losesOf cX5_losesOf 3 (some .int) ∈ BIG := big_at 833 (by decide +kernel) (by decide +kernel)
theorem qw_834 : Cond.methodLink RX5 112 yX5_burrsIn ∈ BIG := big_at 834 (by decide +kernel) (by decide +kernel)
theorem qw_836 : Cond.instanceMethod yX5_burrsIn ∈ BIG := big_at 836 (by decide +kernel) (by decide +kernel)
theorem qw_837 : Cond.code yX5_burrsIn cX5_burrsIn 4 (some .int) ∈ BIG := big_at 837 (by decide +kernel) (by decide +kernel)
theorem qw_838 : Cond.methodLink RL 47 yX5_scare ∈ BIG := big_at 838 (by decide +kernel) (by decide +kernel)
theorem qw_839 : Cond.instanceMethod yX5_scare ∈ BIG := big_at 839 (by decide +kernel) (by decide +kernel)
theorem qw_840 : Cond.selects RX5 yX5_scare yX5_scare ∈ BIG := big_at 840 (by decide +kernel) (by decide +kernel)
theorem qw_841 : Cond.code yX5_scare cX5_scare 3 (some .int) ∈ BIG := big_at 841 (by decide +kernel) (by decide +kernel)
theorem qw_842 : Cond.constantLong RX5 115 (99) ∈ BIG := big_at 842 (by decide +kernel) (by decide +kernel)
theorem qw_843 : Cond.methodLink RL 51 yX5_turn ∈ BIG := big_at 843 (by decide +kernel) (by decide +kernel)
theorem qw_844 : Cond.instanceMethod yX5_turn ∈ BIG := big_at 844 (by decide +kernel) (by decide +kernel)
theorem qw_845 : Cond.selects RX5 yX5_turn yX5_turn ∈ BIG := big_at 845 (by decide +kernel) (by decide +kernel)
theorem qw_846 : Cond.code yX5_turn cX5_turn 3 (some .int) ∈ BIG := big_at 846 (by decide +kernel) (by decide +kernel)
theorem qw_847 : Cond.methodLink RL 55 yX5_as ∈ BIG := big_at 847 (by decide +kernel) (by decide +kernel)
theorem qw_848 : Cond.instanceMethod yX5_as ∈ BIG := big_at 848 (by decide +kernel) (by decide +kernel)
theorem qw_849 : Cond.selects RX5 yX5_as yX5_as ∈ BIG := big_at 849 (by decide +kernel) (by decide +kernel)
theorem qw_850 : Cond.code yX5_as cX5_as 3 (some .int) ∈ BIG := big_at 850 (by decide +kernel) (by decide +kernel)
theorem qw_851 : Cond.methodLink RX5 117 yX5_isUnder ∈ BIG := big_at 851 (by decide +kernel) (by decide +kernel)
theorem qw_852 : Cond.static yX5_isUnder ∈ BIG := big_at 852 (by decide +kernel) (by decide +kernel)
theorem qw_853 : Cond.code yX5_isUnder cX5_isUnder 2 (some .boolean) ∈ BIG := big_at 853 (by decide +kernel) (by decide +kernel)
theorem qw_854 : Cond.constant RX5 121 (-1000000003) ∈ BIG := big_at 854 (by decide +kernel) (by decide +kernel)
theorem qw_855 : Cond.methodLink RL 59 yX5_cut ∈ BIG := big_at 855 (by decide +kernel) (by decide +kernel)
theorem qw_856 : Cond.instanceMethod yX5_cut ∈ BIG := big_at 856 (by decide +kernel) (by decide +kernel)
theorem qw_857 : Cond.selects RX5 yX5_cut yX5_cut ∈ BIG := big_at 857 (by decide +kernel) (by decide +kernel)
theorem qw_858 : Cond.code yX5_cut cX5_cut 4 (some .int) ∈ BIG := big_at 858 (by decide +kernel) (by decide +kernel)
theorem qw_859 : Cond.methodLink RX5 125 yX5_isCoat ∈ BIG := big_at 859 (by decide +kernel) (by decide +kernel)
theorem qw_860 : Cond.static yX5_isCoat ∈ BIG := big_at 860 (by decide +kernel) (by decide +kernel)
theorem qw_861 : Cond.code yX5_isCoat cX5_isCoat 1 (some .boolean) ∈ BIG := big_at 861 (by decide +kernel) (by decide +kernel)
theorem qw_862 : Cond.constantLong RX5 128 (999) ∈ BIG := big_at 862 (by decide +kernel) (by decide +kernel)
theorem qw_863 : Cond.constant RX5 130 (-1000000005) ∈ BIG := big_at 863 (by decide +kernel) (by decide +kernel)
theorem qw_864 : Cond.methodLink RX5 122 yX5_coatSpot ∈ BIG := big_at 864 (by decide +kernel) (by decide +kernel)
theorem qw_865 : Cond.static yX5_coatSpot ∈ BIG := big_at 865 (by decide +kernel) (by decide +kernel)
theorem qw_866 : Cond.code yX5_coatSpot cX5_coatSpot 2 (some .int) ∈ BIG := big_at 866 (by decide +kernel) (by decide +kernel)
theorem qw_867 : Cond.methodLink RX5 131 yX5_cuts ∈ BIG := big_at 867 (by decide +kernel) (by decide +kernel)
theorem qw_869 : Cond.instanceMethod yX5_cuts ∈ BIG := big_at 869 (by decide +kernel) (by decide +kernel)
theorem qw_870 : Cond.code yX5_cuts cX5_cuts 4 (some .int) ∈ BIG := big_at 870 (by decide +kernel) (by decide +kernel)
theorem qw_871 : Cond.methodLink RL 63 yX5_coatOf ∈ BIG := big_at 871 (by decide +kernel) (by decide +kernel)
theorem qw_872 : Cond.instanceMethod yX5_coatOf ∈ BIG := big_at 872 (by decide +kernel) (by decide +kernel)
theorem qw_873 : Cond.selects RX5 yX5_coatOf yX5_coatOf ∈ BIG := big_at 873 (by decide +kernel) (by decide +kernel)
theorem qw_874 : Cond.code yX5_coatOf cX5_coatOf 3 (some .int) ∈ BIG := big_at 874 (by decide +kernel) (by decide +kernel)
theorem qw_875 : Cond.methodLink RX5 135 yX5_warmthOf ∈ BIG := big_at 875 (by decide +kernel) (by decide +kernel)
theorem qw_877 : Cond.instanceMethod yX5_warmthOf ∈ BIG := big_at 877 (by decide +kernel) (by decide +kernel)
theorem qw_878 : Cond.code yX5_warmthOf cX5_warmthOf 6 (some .int) ∈ BIG := big_at 878 (by decide +kernel) (by decide +kernel)
theorem qw_879 : Cond.methodLink RX5 138 yX5_harshOf ∈ BIG := big_at 879 (by decide +kernel) (by decide +kernel)
theorem qw_881 : Cond.instanceMethod yX5_harshOf ∈ BIG := big_at 881 (by decide +kernel) (by decide +kernel)
theorem qw_882 : Cond.code yX5_harshOf cX5_harshOf 4 (some .int) ∈ BIG := big_at 882 (by decide +kernel) (by decide +kernel)
theorem qw_883 : Cond.methodLink RX5 141 yX5_monthsIn ∈ BIG := big_at 883 (by decide +kernel) (by decide +kernel)
theorem qw_885 : Cond.instanceMethod yX5_monthsIn ∈ BIG := big_at 885 (by decide +kernel) (by decide +kernel)
theorem qw_886 : Cond.code yX5_monthsIn cX5_monthsIn 4 (some .int) ∈ BIG := big_at 886 (by decide +kernel) (by decide +kernel)
theorem qw_887 : Cond.methodLink RL 67 yX5_unpick ∈ BIG := big_at 887 (by decide +kernel) (by decide +kernel)
theorem qw_888 : Cond.instanceMethod yX5_unpick ∈ BIG := big_at 888 (by decide +kernel) (by decide +kernel)
theorem qw_889 : Cond.selects RX5 yX5_unpick yX5_unpick ∈ BIG := big_at 889 (by decide +kernel) (by decide +kernel)
theorem qw_890 : Cond.code yX5_unpick cX5_unpick 4 (some .int) ∈ BIG := big_at 890 (by decide +kernel) (by decide +kernel)
theorem qw_891 : Cond.methodLink RX5 144 yX5_heldTo ∈ BIG := big_at 891 (by decide +kernel) (by decide +kernel)
theorem qw_892 : Cond.static yX5_heldTo ∈ BIG := big_at 892 (by decide +kernel) (by decide +kernel)
theorem qw_893 : Cond.code yX5_heldTo cX5_heldTo 2 (some .int) ∈ BIG := big_at 893 (by decide +kernel) (by decide +kernel)
theorem qw_894 : Cond.methodLink RL 71 yX5_months ∈ BIG := big_at 894 (by decide +kernel) (by decide +kernel)
theorem qw_895 : Cond.instanceMethod yX5_months ∈ BIG := big_at 895 (by decide +kernel) (by decide +kernel)
theorem qw_896 : Cond.selects RX5 yX5_months yX5_months ∈ BIG := big_at 896 (by decide +kernel) (by decide +kernel)
theorem qw_897 : Cond.code yX5_months cX5_months 2 (some .int) ∈ BIG := big_at 897 (by decide +kernel) (by decide +kernel)
theorem qw_898 : Cond.constantLong RX5 154 (60) ∈ BIG := big_at 898 (by decide +kernel) (by decide +kernel)
theorem qw_899 : Cond.methodLink RX5 156 yX5_monthsGo ∈ BIG := big_at 899 (by decide +kernel) (by decide +kernel)
theorem qw_901 : Cond.instanceMethod yX5_monthsGo ∈ BIG := big_at 901 (by decide +kernel) (by decide +kernel)
theorem qw_902 : Cond.code yX5_monthsGo cX5_monthsGo 3 none ∈ BIG := big_at 902 (by decide +kernel) (by decide +kernel)
theorem qw_903 : Cond.methodLink RX5 151 yX5_month ∈ BIG := big_at 903 (by decide +kernel) (by decide +kernel)
theorem qw_905 : Cond.instanceMethod yX5_month ∈ BIG := big_at 905 (by decide +kernel) (by decide +kernel)
theorem qw_906 : Cond.code yX5_month cX5_month 4 none ∈ BIG := big_at 906 (by decide +kernel) (by decide +kernel)
theorem qw_907 : Cond.methodLink RX5 147 yX5_isShorn ∈ BIG := big_at 907 (by decide +kernel) (by decide +kernel)
theorem qw_909 : Cond.instanceMethod yX5_isShorn ∈ BIG := big_at 909 (by decide +kernel) (by decide +kernel)
theorem qw_910 : Cond.code yX5_isShorn cX5_isShorn 5 none ∈ BIG := big_at 910 (by decide +kernel) (by decide +kernel)
theorem qw_911 : Cond.methodLink RL 75 yX5_on ∈ BIG := big_at 911 (by decide +kernel) (by decide +kernel)
theorem qw_912 : Cond.instanceMethod yX5_on ∈ BIG := big_at 912 (by decide +kernel) (by decide +kernel)
theorem qw_913 : Cond.selects RX5 yX5_on yX5_on ∈ BIG := big_at 913 (by decide +kernel) (by decide +kernel)
theorem qw_914 : Cond.code yX5_on cX5_on 4 (some .int) ∈ BIG := big_at 914 (by decide +kernel) (by decide +kernel)
theorem qw_915 : Cond.methodLink RX5 167 yX5_isAhead ∈ BIG := big_at 915 (by decide +kernel) (by decide +kernel)
theorem qw_916 : Cond.static yX5_isAhead ∈ BIG := big_at 916 (by decide +kernel) (by decide +kernel)
theorem qw_917 : Cond.code yX5_isAhead cX5_isAhead 1 (some .boolean) ∈ BIG := big_at 917 (by decide +kernel) (by decide +kernel)
theorem qw_918 : Cond.constantLong RX5 159 (120) ∈ BIG := big_at 918 (by decide +kernel) (by decide +kernel)
theorem qw_919 : Cond.methodLink RX5 170 yX5_twelveBehind ∈ BIG := big_at 919 (by decide +kernel) (by decide +kernel)
theorem qw_921 : Cond.instanceMethod yX5_twelveBehind ∈ BIG := big_at 921 (by decide +kernel) (by decide +kernel)
theorem qw_922 : Cond.code yX5_twelveBehind cX5_twelveBehind 3 (some .int) ∈ BIG := big_at 922 (by decide +kernel) (by decide +kernel)
theorem qw_923 : Cond.methodLink RX5 161 yX5_laysAside ∈ BIG := big_at 923 (by decide +kernel) (by decide +kernel)
theorem qw_925 : Cond.instanceMethod yX5_laysAside ∈ BIG := big_at 925 (by decide +kernel) (by decide +kernel)
theorem qw_926 : Cond.code yX5_laysAside cX5_laysAside 2 none ∈ BIG := big_at 926 (by decide +kernel) (by decide +kernel)
theorem qw_927 : Cond.methodLink RX5 164 yX5_takesBack ∈ BIG := big_at 927 (by decide +kernel) (by decide +kernel)
theorem qw_929 : Cond.instanceMethod yX5_takesBack ∈ BIG := big_at 929 (by decide +kernel) (by decide +kernel)
theorem qw_930 : Cond.code yX5_takesBack cX5_takesBack 3 (some .int) ∈ BIG := big_at 930 (by decide +kernel) (by decide +kernel)
theorem qw_931 : Cond.methodLink RX5 173 yX5_behind ∈ BIG := big_at 931 (by decide +kernel) (by decide +kernel)
theorem qw_933 : Cond.instanceMethod yX5_behind ∈ BIG := big_at 933 (by decide +kernel) (by decide +kernel)
theorem qw_934 : Cond.code yX5_behind cX5_behind 3 (some .int) ∈ BIG := big_at 934 (by decide +kernel) (by decide +kernel)
theorem qw_935 : Cond.methodLink RL 79 yX5_then ∈ BIG := big_at 935 (by decide +kernel) (by decide +kernel)
theorem qw_936 : Cond.instanceMethod yX5_then ∈ BIG := big_at 936 (by decide +kernel) (by decide +kernel)
theorem qw_937 : Cond.selects RX5 yX5_then yX5_then ∈ BIG := big_at 937 (by decide +kernel) (by decide +kernel)
theorem qw_938 : Cond.code yX5_then cX5_then 4 (some .int) ∈ BIG := big_at 938 (by decide +kernel) (by decide +kernel)
theorem qw_939 : Cond.methodLink RL 83 yX5_enough ∈ BIG := big_at 939 (by decide +kernel) (by decide +kernel)
theorem qw_940 : Cond.instanceMethod yX5_enough ∈ BIG := big_at 940 (by decide +kernel) (by decide +kernel)
theorem qw_941 : Cond.selects RX5 yX5_enough yX5_enough ∈ BIG := big_at 941 (by decide +kernel) (by decide +kernel)
theorem qw_942 : Cond.code yX5_enough cX5_enough 3 (some .int) ∈ BIG := big_at 942 (by decide +kernel) (by decide +kernel)
theorem qw_943 : Cond.constantLong RX5 177 (9999) ∈ BIG := big_at 943 (by decide +kernel) (by decide +kernel)
theorem qw_944 : Cond.methodLink RX5 179 yX5_firstAs ∈ BIG := big_at 944 (by decide +kernel) (by decide +kernel)
theorem qw_946 : Cond.instanceMethod yX5_firstAs ∈ BIG := big_at 946 (by decide +kernel) (by decide +kernel)
theorem qw_947 : Cond.code yX5_firstAs cX5_firstAs 6 (some .int) ∈ BIG := big_at 947 (by decide +kernel) (by decide +kernel)
theorem qw_948 : Cond.constant RX5 176 (-1000000004) ∈ BIG := big_at 948 (by decide +kernel) (by decide +kernel)
theorem qw_949 : Cond.methodLink RL 87 yX5_calm ∈ BIG := big_at 949 (by decide +kernel) (by decide +kernel)
theorem qw_950 : Cond.instanceMethod yX5_calm ∈ BIG := big_at 950 (by decide +kernel) (by decide +kernel)
theorem qw_951 : Cond.selects RX5 yX5_calm yX5_calm ∈ BIG := big_at 951 (by decide +kernel) (by decide +kernel)
theorem qw_952 : Cond.code yX5_calm cX5_calm 2 (some .int) ∈ BIG := big_at 952 (by decide +kernel) (by decide +kernel)
theorem qw_953 : Cond.methodLink RL 91 yX5_kind ∈ BIG := big_at 953 (by decide +kernel) (by decide +kernel)
theorem qw_954 : Cond.instanceMethod yX5_kind ∈ BIG := big_at 954 (by decide +kernel) (by decide +kernel)
theorem qw_955 : Cond.selects RX5 yX5_kind yX5_kind ∈ BIG := big_at 955 (by decide +kernel) (by decide +kernel)
theorem qw_956 : Cond.code yX5_kind cX5_kind 8 (some .int) ∈ BIG := big_at 956 (by decide +kernel) (by decide +kernel)
theorem qw_957 : Cond.methodLink RX5 182 yX5_isSoon ∈ BIG := big_at 957 (by decide +kernel) (by decide +kernel)
theorem qw_958 : Cond.static yX5_isSoon ∈ BIG := big_at 958 (by decide +kernel) (by decide +kernel)
theorem qw_959 : Cond.code yX5_isSoon cX5_isSoon 1 (some .boolean) ∈ BIG := big_at 959 (by decide +kernel) (by decide +kernel)
theorem qw_960 : Cond.methodLink RL 95 yX5_cold ∈ BIG := big_at 960 (by decide +kernel) (by decide +kernel)
theorem qw_961 : Cond.instanceMethod yX5_cold ∈ BIG := big_at 961 (by decide +kernel) (by decide +kernel)
theorem qw_962 : Cond.selects RX5 yX5_cold yX5_cold ∈ BIG := big_at 962 (by decide +kernel) (by decide +kernel)
theorem qw_963 : Cond.code yX5_cold cX5_cold 7 (some .int) ∈ BIG := big_at 963 (by decide +kernel) (by decide +kernel)
theorem qw_964 : Cond.methodLink RL 99 yX5_best ∈ BIG := big_at 964 (by decide +kernel) (by decide +kernel)
theorem qw_965 : Cond.instanceMethod yX5_best ∈ BIG := big_at 965 (by decide +kernel) (by decide +kernel)
theorem qw_966 : Cond.selects RX5 yX5_best yX5_best ∈ BIG := big_at 966 (by decide +kernel) (by decide +kernel)
theorem qw_967 : Cond.code yX5_best cX5_best 7 (some .int) ∈ BIG := big_at 967 (by decide +kernel) (by decide +kernel)
theorem qw_968 : Cond.methodLink RL 103 yX5_bears ∈ BIG := big_at 968 (by decide +kernel) (by decide +kernel)
theorem qw_969 : Cond.instanceMethod yX5_bears ∈ BIG := big_at 969 (by decide +kernel) (by decide +kernel)
theorem qw_970 : Cond.selects RX5 yX5_bears yX5_bears ∈ BIG := big_at 970 (by decide +kernel) (by decide +kernel)
theorem qw_971 : Cond.code yX5_bears cX5_bears 7 (some .int) ∈ BIG := big_at 971 (by decide +kernel) (by decide +kernel)
theorem qw_972 : Cond.constantLong RX5 185 (1188) ∈ BIG := big_at 972 (by decide +kernel) (by decide +kernel)
theorem qw_973 : Cond.methodLink RL 107 yX5_milder ∈ BIG := big_at 973 (by decide +kernel) (by decide +kernel)
theorem qw_974 : Cond.instanceMethod yX5_milder ∈ BIG := big_at 974 (by decide +kernel) (by decide +kernel)
theorem qw_975 : Cond.selects RX5 yX5_milder yX5_milder ∈ BIG := big_at 975 (by decide +kernel) (by decide +kernel)
theorem qw_976 : Cond.code yX5_milder cX5_milder 7 (some .int) ∈ BIG := big_at 976 (by decide +kernel) (by decide +kernel)
theorem qw_977 : Cond.constant RX5 187 (999999) ∈ BIG := big_at 977 (by decide +kernel) (by decide +kernel)
theorem qw_978 : Cond.methodLink RL 112 yX5_warmest ∈ BIG := big_at 978 (by decide +kernel) (by decide +kernel)
theorem qw_979 : Cond.instanceMethod yX5_warmest ∈ BIG := big_at 979 (by decide +kernel) (by decide +kernel)
theorem qw_980 : Cond.selects RX5 yX5_warmest yX5_warmest ∈ BIG := big_at 980 (by decide +kernel) (by decide +kernel)
theorem qw_981 : Cond.code yX5_warmest cX5_warmest 3 (some .int) ∈ BIG := big_at 981 (by decide +kernel) (by decide +kernel)
theorem qw_982 : Cond.methodLink RL 116 yX5_feed ∈ BIG := big_at 982 (by decide +kernel) (by decide +kernel)
theorem qw_983 : Cond.instanceMethod yX5_feed ∈ BIG := big_at 983 (by decide +kernel) (by decide +kernel)
theorem qw_984 : Cond.selects RX5 yX5_feed yX5_feed ∈ BIG := big_at 984 (by decide +kernel) (by decide +kernel)
theorem qw_985 : Cond.code yX5_feed cX5_feed 4 (some .int) ∈ BIG := big_at 985 (by decide +kernel) (by decide +kernel)
theorem qw_986 : Cond.constantLong RX5 188 (4) ∈ BIG := big_at 986 (by decide +kernel) (by decide +kernel)
theorem qw_987 : Cond.methodLink RL 120 yX5_wipe ∈ BIG := big_at 987 (by decide +kernel) (by decide +kernel)
theorem qw_988 : Cond.instanceMethod yX5_wipe ∈ BIG := big_at 988 (by decide +kernel) (by decide +kernel)
theorem qw_989 : Cond.selects RX5 yX5_wipe yX5_wipe ∈ BIG := big_at 989 (by decide +kernel) (by decide +kernel)
theorem qw_990 : Cond.code yX5_wipe cX5_wipe 2 (some .int) ∈ BIG := big_at 990 (by decide +kernel) (by decide +kernel)
theorem qw_991 : Cond.methodLink RL 124 yX5_parish ∈ BIG := big_at 991 (by decide +kernel) (by decide +kernel)
theorem qw_992 : Cond.instanceMethod yX5_parish ∈ BIG := big_at 992 (by decide +kernel) (by decide +kernel)
theorem qw_993 : Cond.selects RX5 yX5_parish yX5_parish ∈ BIG := big_at 993 (by decide +kernel) (by decide +kernel)
theorem qw_994 : Cond.code yX5_parish cX5_parish 2 (some .int) ∈ BIG := big_at 994 (by decide +kernel) (by decide +kernel)
theorem qw_995 : Cond.methodLink RX5 280 yX5_saves ∈ BIG := big_at 995 (by decide +kernel) (by decide +kernel)
theorem qw_997 : Cond.instanceMethod yX5_saves ∈ BIG := big_at 997 (by decide +kernel) (by decide +kernel)
theorem qw_998 : Cond.code yX5_saves cX5_saves 2 none ∈ BIG := big_at 998 (by decide +kernel) (by decide +kernel)
theorem qw_999 : Cond.methodLink RX5 221 yX5_token ∈ BIG := big_at 999 (by decide +kernel) (by decide +kernel)
theorem qw_1001 : Cond.instanceMethod yX5_token ∈ BIG := big_at 1001 (by decide +kernel) (by decide +kernel)
theorem qw_1002 : Cond.code yX5_token cX5_token 3 none ∈ BIG := big_at 1002 (by decide +kernel) (by decide +kernel)
theorem qw_1003 : Cond.methodLink RX5 208 yX5_byteAt ∈ BIG := big_at 1003 (by decide +kernel) (by decide +kernel)
theorem qw_1005 : Cond.instanceMethod yX5_byteAt ∈ BIG := big_at 1005 (by decide +kernel) (by decide +kernel)
theorem qw_1006 : Cond.code yX5_byteAt cX5_byteAt 2 (some .int) ∈ BIG := big_at 1006 (by decide +kernel) (by decide +kernel)
theorem qw_1007 : Cond.methodLink RX5 211 yX5_isLetter ∈ BIG := big_at 1007 (by decide +kernel) (by decide +kernel)
theorem qw_1008 : Cond.static yX5_isLetter ∈ BIG := big_at 1008 (by decide +kernel) (by decide +kernel)
theorem qw_1009 : Cond.code yX5_isLetter cX5_isLetter 1 (some .boolean) ∈ BIG := big_at 1009 (by decide +kernel) (by decide +kernel)
theorem qw_1010 : Cond.constantLong RX5 194 (97) ∈ BIG := big_at 1010 (by decide +kernel) (by decide +kernel)
theorem qw_1011 : Cond.constantLong RX5 196 (122) ∈ BIG := big_at 1011 (by decide +kernel) (by decide +kernel)
theorem qw_1012 : Cond.methodLink RX5 214 yX5_isDigit ∈ BIG := big_at 1012 (by decide +kernel) (by decide +kernel)
theorem qw_1013 : Cond.static yX5_isDigit ∈ BIG := big_at 1013 (by decide +kernel) (by decide +kernel)
theorem qw_1014 : Cond.code yX5_isDigit cX5_isDigit 1 (some .boolean) ∈ BIG := big_at 1014 (by decide +kernel) (by decide +kernel)
theorem qw_1015 : Cond.constantLong RX5 198 (48) ∈ BIG := big_at 1015 (by decide +kernel) (by decide +kernel)
theorem qw_1016 : Cond.constantLong RX5 200 (57) ∈ BIG := big_at 1016 (by decide +kernel) (by decide +kernel)
theorem qw_1017 : Cond.methodLink RX5 283 yX5_item ∈ BIG := big_at 1017 (by decide +kernel) (by decide +kernel)
theorem qw_1019 : Cond.instanceMethod yX5_item ∈ BIG := big_at 1019 (by decide +kernel) (by decide +kernel)
theorem qw_1020 : Cond.code yX5_item cX5_item 4 none ∈ BIG := big_at 1020 (by decide +kernel) (by decide +kernel)
theorem qw_1021 : Cond.methodLink RX5 257 yX5_kindHere ∈ BIG := big_at 1021 (by decide +kernel) (by decide +kernel)
theorem qw_1023 : Cond.instanceMethod yX5_kindHere ∈ BIG := big_at 1023 (by decide +kernel) (by decide +kernel)
theorem qw_1024 : Cond.code yX5_kindHere cX5_kindHere 3 (some .int) ∈ BIG := big_at 1024 (by decide +kernel) (by decide +kernel)
theorem qw_1025 : Cond.methodLink RX5 235 yX5_word ∈ BIG := big_at 1025 (by decide +kernel) (by decide +kernel)
theorem qw_1027 : Cond.instanceMethod yX5_word ∈ BIG := big_at 1027 (by decide +kernel) (by decide +kernel)
theorem qw_1028 : Cond.code yX5_word cX5_word 4 (some .long) ∈ BIG := big_at 1028 (by decide +kernel) (by decide +kernel)
theorem qw_1029 : Cond.constantLong RX5 224 (36028797018963967) ∈ BIG := big_at 1029 (by decide +kernel) (by decide +kernel)
theorem qw_1030 : Cond.constantLong RX5 226 (32) ∈ BIG := big_at 1030 (by decide +kernel) (by decide +kernel)
theorem qw_1031 : Cond.constantLong RX5 239 (5861) ∈ BIG := big_at 1031 (by decide +kernel) (by decide +kernel)
theorem qw_1032 : Cond.constantLong RX5 241 (18477) ∈ BIG := big_at 1032 (by decide +kernel) (by decide +kernel)
theorem qw_1033 : Cond.constantLong RX5 243 (394658) ∈ BIG := big_at 1033 (by decide +kernel) (by decide +kernel)
theorem qw_1034 : Cond.constantLong RX5 245 (777658546) ∈ BIG := big_at 1034 (by decide +kernel) (by decide +kernel)
theorem qw_1035 : Cond.constantLong RX5 247 (2491499) ∈ BIG := big_at 1035 (by decide +kernel) (by decide +kernel)
theorem qw_1036 : Cond.constantLong RX5 249 (16564) ∈ BIG := big_at 1036 (by decide +kernel) (by decide +kernel)
theorem qw_1037 : Cond.methodLink RX5 260 yX5_eweItem ∈ BIG := big_at 1037 (by decide +kernel) (by decide +kernel)
theorem qw_1039 : Cond.instanceMethod yX5_eweItem ∈ BIG := big_at 1039 (by decide +kernel) (by decide +kernel)
theorem qw_1040 : Cond.code yX5_eweItem cX5_eweItem 3 none ∈ BIG := big_at 1040 (by decide +kernel) (by decide +kernel)
theorem qw_1041 : Cond.methodLink RX5 231 yX5_must ∈ BIG := big_at 1041 (by decide +kernel) (by decide +kernel)
theorem qw_1043 : Cond.instanceMethod yX5_must ∈ BIG := big_at 1043 (by decide +kernel) (by decide +kernel)
theorem qw_1044 : Cond.code yX5_must cX5_must 2 none ∈ BIG := big_at 1044 (by decide +kernel) (by decide +kernel)
theorem qw_1045 : Cond.constantLong RX5 251 (220503316) ∈ BIG := big_at 1045 (by decide +kernel) (by decide +kernel)
theorem qw_1046 : Cond.methodLink RX5 253 yX5_number ∈ BIG := big_at 1046 (by decide +kernel) (by decide +kernel)
theorem qw_1048 : Cond.instanceMethod yX5_number ∈ BIG := big_at 1048 (by decide +kernel) (by decide +kernel)
theorem qw_1049 : Cond.code yX5_number cX5_number 6 none ∈ BIG := big_at 1049 (by decide +kernel) (by decide +kernel)
theorem qw_1050 : Cond.constantLong RX5 263 (114052) ∈ BIG := big_at 1050 (by decide +kernel) (by decide +kernel)
theorem qw_1051 : Cond.methodLink RX5 265 yX5_weatherItem ∈ BIG := big_at 1051 (by decide +kernel) (by decide +kernel)
theorem qw_1053 : Cond.instanceMethod yX5_weatherItem ∈ BIG := big_at 1053 (by decide +kernel) (by decide +kernel)
theorem qw_1054 : Cond.code yX5_weatherItem cX5_weatherItem 3 none ∈ BIG := big_at 1054 (by decide +kernel) (by decide +kernel)
theorem qw_1055 : Cond.constantLong RX5 268 (435588) ∈ BIG := big_at 1055 (by decide +kernel) (by decide +kernel)
theorem qw_1056 : Cond.constantLong RX5 270 (3764) ∈ BIG := big_at 1056 (by decide +kernel) (by decide +kernel)
theorem qw_1057 : Cond.methodLink RX5 272 yX5_cutItem ∈ BIG := big_at 1057 (by decide +kernel) (by decide +kernel)
theorem qw_1059 : Cond.instanceMethod yX5_cutItem ∈ BIG := big_at 1059 (by decide +kernel) (by decide +kernel)
theorem qw_1060 : Cond.code yX5_cutItem cX5_cutItem 4 none ∈ BIG := big_at 1060 (by decide +kernel) (by decide +kernel)
theorem qw_1061 : Cond.constantLong RX5 275 (20594245) ∈ BIG := big_at 1061 (by decide +kernel) (by decide +kernel)
theorem qw_1062 : Cond.methodLink RX5 277 yX5_storeItem ∈ BIG := big_at 1062 (by decide +kernel) (by decide +kernel)
theorem qw_1064 : Cond.instanceMethod yX5_storeItem ∈ BIG := big_at 1064 (by decide +kernel) (by decide +kernel)
theorem qw_1065 : Cond.code yX5_storeItem cX5_storeItem 2 none ∈ BIG := big_at 1065 (by decide +kernel) (by decide +kernel)
theorem qw_1066 : Cond.methodLink RX5 286 yX5_putsBack ∈ BIG := big_at 1066 (by decide +kernel) (by decide +kernel)
theorem qw_1068 : Cond.instanceMethod yX5_putsBack ∈ BIG := big_at 1068 (by decide +kernel) (by decide +kernel)
theorem qw_1069 : Cond.code yX5_putsBack cX5_putsBack 2 none ∈ BIG := big_at 1069 (by decide +kernel) (by decide +kernel)
theorem qw_1070 : Cond.methodLink RL 128 yX5_sheet ∈ BIG := big_at 1070 (by decide +kernel) (by decide +kernel)
theorem qw_1071 : Cond.instanceMethod yX5_sheet ∈ BIG := big_at 1071 (by decide +kernel) (by decide +kernel)
theorem qw_1072 : Cond.selects RX5 yX5_sheet yX5_sheet ∈ BIG := big_at 1072 (by decide +kernel) (by decide +kernel)
theorem qw_1073 : Cond.code yX5_sheet cX5_sheet 5 (some .int) ∈ BIG := big_at 1073 (by decide +kernel) (by decide +kernel)
theorem qw_1074 : Cond.methodLink RX5 289 yX5_isOne ∈ BIG := big_at 1074 (by decide +kernel) (by decide +kernel)
theorem qw_1075 : Cond.static yX5_isOne ∈ BIG := big_at 1075 (by decide +kernel) (by decide +kernel)
theorem qw_1076 : Cond.code yX5_isOne cX5_isOne 1 (some .boolean) ∈ BIG := big_at 1076 (by decide +kernel) (by decide +kernel)
theorem qw_1077 : Cond.constant RX5 292 (-1000000007) ∈ BIG := big_at 1077 (by decide +kernel) (by decide +kernel)
theorem qw_1078 : Cond.methodLink RL 135 yX5_write ∈ BIG := big_at 1078 (by decide +kernel) (by decide +kernel)
theorem qw_1079 : Cond.instanceMethod yX5_write ∈ BIG := big_at 1079 (by decide +kernel) (by decide +kernel)
theorem qw_1080 : Cond.selects RX5 yX5_write yX5_write ∈ BIG := big_at 1080 (by decide +kernel) (by decide +kernel)
theorem qw_1081 : Cond.code yX5_write cX5_write 8 (some .long) ∈ BIG := big_at 1081 (by decide +kernel) (by decide +kernel)
theorem qw_1082 : Cond.methodLink RX5 294 yX5_wrongSheet ∈ BIG := big_at 1082 (by decide +kernel) (by decide +kernel)
theorem qw_1084 : Cond.instanceMethod yX5_wrongSheet ∈ BIG := big_at 1084 (by decide +kernel) (by decide +kernel)
theorem qw_1085 : Cond.code yX5_wrongSheet cX5_wrongSheet 2 (some .int) ∈ BIG := big_at 1085 (by decide +kernel) (by decide +kernel)
theorem qw_1086 : Cond.constant RX5 293 (-1000000006) ∈ BIG := big_at 1086 (by decide +kernel) (by decide +kernel)
theorem qw_1087 : Cond.methodLink RX5 297 yX5_narrowed ∈ BIG := big_at 1087 (by decide +kernel) (by decide +kernel)
theorem qw_1088 : Cond.static yX5_narrowed ∈ BIG := big_at 1088 (by decide +kernel) (by decide +kernel)
theorem qw_1089 : Cond.code yX5_narrowed cX5_narrowed 3 (some .long) ∈ BIG := big_at 1089 (by decide +kernel) (by decide +kernel)
theorem qw_1090 : Cond.methodLink RL 140 yX5_copy ∈ BIG := big_at 1090 (by decide +kernel) (by decide +kernel)
theorem qw_1091 : Cond.instanceMethod yX5_copy ∈ BIG := big_at 1091 (by decide +kernel) (by decide +kernel)
theorem qw_1092 : Cond.selects RX5 yX5_copy yX5_copy ∈ BIG := big_at 1092 (by decide +kernel) (by decide +kernel)
theorem qw_1093 : Cond.code yX5_copy cX5_copy 7 (some .int) ∈ BIG := big_at 1093 (by decide +kernel) (by decide +kernel)
theorem qw_1094 : Cond.methodLink RL 144 yX5_lays ∈ BIG := big_at 1094 (by decide +kernel) (by decide +kernel)
theorem qw_1095 : Cond.instanceMethod yX5_lays ∈ BIG := big_at 1095 (by decide +kernel) (by decide +kernel)
theorem qw_1096 : Cond.selects RX5 yX5_lays yX5_lays ∈ BIG := big_at 1096 (by decide +kernel) (by decide +kernel)
theorem qw_1097 : Cond.code yX5_lays cX5_lays 6 (some .int) ∈ BIG := big_at 1097 (by decide +kernel) (by decide +kernel)
theorem qw_1098 : Cond.methodLink RL 148 yX5_book ∈ BIG := big_at 1098 (by decide +kernel) (by decide +kernel)
theorem qw_1099 : Cond.instanceMethod yX5_book ∈ BIG := big_at 1099 (by decide +kernel) (by decide +kernel)
theorem qw_1100 : Cond.selects RX5 yX5_book yX5_book ∈ BIG := big_at 1100 (by decide +kernel) (by decide +kernel)
theorem qw_1101 : Cond.code yX5_book cX5_book 5 (some .int) ∈ BIG := big_at 1101 (by decide +kernel) (by decide +kernel)
theorem qw_1102 : Cond.methodLink RL 152 yX5_read ∈ BIG := big_at 1102 (by decide +kernel) (by decide +kernel)
theorem qw_1103 : Cond.instanceMethod yX5_read ∈ BIG := big_at 1103 (by decide +kernel) (by decide +kernel)
theorem qw_1104 : Cond.selects RX5 yX5_read yX5_read ∈ BIG := big_at 1104 (by decide +kernel) (by decide +kernel)
theorem qw_1105 : Cond.code yX5_read cX5_read 6 (some .int) ∈ BIG := big_at 1105 (by decide +kernel) (by decide +kernel)
theorem qw_1106 : Cond.methodLink RX5 301 yX5_isBook ∈ BIG := big_at 1106 (by decide +kernel) (by decide +kernel)
theorem qw_1108 : Cond.instanceMethod yX5_isBook ∈ BIG := big_at 1108 (by decide +kernel) (by decide +kernel)
theorem qw_1109 : Cond.code yX5_isBook cX5_isBook 4 (some .boolean) ∈ BIG := big_at 1109 (by decide +kernel) (by decide +kernel)
theorem qw_1110 : Cond.methodLink RL 156 yX5_image ∈ BIG := big_at 1110 (by decide +kernel) (by decide +kernel)
theorem qw_1111 : Cond.instanceMethod yX5_image ∈ BIG := big_at 1111 (by decide +kernel) (by decide +kernel)
theorem qw_1112 : Cond.selects RX5 yX5_image yX5_image ∈ BIG := big_at 1112 (by decide +kernel) (by decide +kernel)
theorem qw_1113 : Cond.code yX5_image cX5_image 2 (some .int) ∈ BIG := big_at 1113 (by decide +kernel) (by decide +kernel)
theorem qw_1114 : Cond.methodLink RL 160 yX5_undo ∈ BIG := big_at 1114 (by decide +kernel) (by decide +kernel)
theorem qw_1115 : Cond.instanceMethod yX5_undo ∈ BIG := big_at 1115 (by decide +kernel) (by decide +kernel)
theorem qw_1116 : Cond.selects RX5 yX5_undo yX5_undo ∈ BIG := big_at 1116 (by decide +kernel) (by decide +kernel)
theorem qw_1117 : Cond.code yX5_undo cX5_undo 2 (some .int) ∈ BIG := big_at 1117 (by decide +kernel) (by decide +kernel)
theorem qw_1118 : Cond.methodLink RL 164 yX5_tear ∈ BIG := big_at 1118 (by decide +kernel) (by decide +kernel)
theorem qw_1119 : Cond.instanceMethod yX5_tear ∈ BIG := big_at 1119 (by decide +kernel) (by decide +kernel)
theorem qw_1120 : Cond.selects RX5 yX5_tear yX5_tear ∈ BIG := big_at 1120 (by decide +kernel) (by decide +kernel)
theorem qw_1121 : Cond.code yX5_tear cX5_tear 2 (some .int) ∈ BIG := big_at 1121 (by decide +kernel) (by decide +kernel)
theorem qw_1122 : Cond.methodLink RL 168 yX5_count ∈ BIG := big_at 1122 (by decide +kernel) (by decide +kernel)
theorem qw_1123 : Cond.instanceMethod yX5_count ∈ BIG := big_at 1123 (by decide +kernel) (by decide +kernel)
theorem qw_1124 : Cond.selects RX5 yX5_count yX5_count ∈ BIG := big_at 1124 (by decide +kernel) (by decide +kernel)
theorem qw_1125 : Cond.code yX5_count cX5_count 2 (some .int) ∈ BIG := big_at 1125 (by decide +kernel) (by decide +kernel)
theorem qw_1126 : Cond.methodLink RX5 307 yX5_coatsMade ∈ BIG := big_at 1126 (by decide +kernel) (by decide +kernel)
theorem qw_1128 : Cond.instanceMethod yX5_coatsMade ∈ BIG := big_at 1128 (by decide +kernel) (by decide +kernel)
theorem qw_1129 : Cond.code yX5_coatsMade cX5_coatsMade 3 (some .int) ∈ BIG := big_at 1129 (by decide +kernel) (by decide +kernel)
theorem qw_1130 : Cond.methodLink RX5 310 yX5_frights ∈ BIG := big_at 1130 (by decide +kernel) (by decide +kernel)
theorem qw_1132 : Cond.instanceMethod yX5_frights ∈ BIG := big_at 1132 (by decide +kernel) (by decide +kernel)
theorem qw_1133 : Cond.code yX5_frights cX5_frights 3 (some .int) ∈ BIG := big_at 1133 (by decide +kernel) (by decide +kernel)
theorem qw_1134 : Cond.methodLink RL 172 yX5_status ∈ BIG := big_at 1134 (by decide +kernel) (by decide +kernel)
theorem qw_1135 : Cond.instanceMethod yX5_status ∈ BIG := big_at 1135 (by decide +kernel) (by decide +kernel)
theorem qw_1136 : Cond.selects RX5 yX5_status yX5_status ∈ BIG := big_at 1136 (by decide +kernel) (by decide +kernel)
theorem qw_1137 : Cond.code yX5_status cX5_status 4 (some .int) ∈ BIG := big_at 1137 (by decide +kernel) (by decide +kernel)
theorem qw_1138 : Cond.constantLong RX5 313 (-1) ∈ BIG := big_at 1138 (by decide +kernel) (by decide +kernel)
theorem qw_1139 : Cond.constantLong RX5 315 (6) ∈ BIG := big_at 1139 (by decide +kernel) (by decide +kernel)
theorem qw_1140 : Cond.constantLong RL 129 (4294967295) ∈ BIG := big_at 1140 (by decide +kernel) (by decide +kernel)
theorem qw_1141 : Cond.fieldLink RJ0 9 "java/lang/String" "value" "[B" ∈ BIG := big_at 1141 (by decide +kernel) (by decide +kernel)
theorem qw_1142 : Cond.fieldLink RJ0 15 "java/lang/String" "coder" "B" ∈ BIG := big_at 1142 (by decide +kernel) (by decide +kernel)
theorem inB0 : ∀ w ∈ wsX00, w ∈ BIG := big_list _ [105, 107, 109, 111] (by decide +kernel) (by decide +kernel)
theorem inB1 : ∀ w ∈ wsX10, w ∈ BIG := big_list _ [131, 133, 135, 137, 139, 141, 143] (by decide +kernel) (by decide +kernel)
theorem inB2 : ∀ w ∈ wsX20, w ∈ BIG := big_list _ [188, 190, 192] (by decide +kernel) (by decide +kernel)
theorem inB3 : ∀ w ∈ wsX30, w ∈ BIG := big_list _ [161, 163, 165, 167, 169, 171] (by decide +kernel) (by decide +kernel)
theorem inB4 : ∀ w ∈ wsX40, w ∈ BIG := big_list _ [204, 206, 208, 210, 212, 214, 216, 218] (by decide +kernel) (by decide +kernel)
theorem inB5 : ∀ w ∈ wsX50, w ∈ BIG := big_list _ [702, 704, 706, 708, 710, 712, 714, 716, 718, 720, 722, 724, 726, 728, 730, 732] (by decide +kernel) (by decide +kernel)
theorem qw_static_min : Cond.static Lib.Math.min.name ∈ BIG := qw_374
theorem qw_static_max : Cond.static Lib.Math.max.name ∈ BIG := qw_307
theorem qw_init_Math : Cond.initialized RJ9 ∈ BIG := qw_64
theorem qw_native_copy : Cond.native arraycopyName ∈ BIG := qw_413
theorem qw_static_copy : Cond.static arraycopyName ∈ BIG := qw_412
theorem qw_init_System : Cond.initialized RJ10 ∈ BIG := qw_65
theorem qw_code_min : Cond.code Lib.Math.min.name Lib.Math.min.code 2 (some .int) ∈ BIG := qw_375
theorem qw_code_max : Cond.code Lib.Math.max.name Lib.Math.max.code 2 (some .int) ∈ BIG := qw_308
end
section
/-! plain facts on numbers and arrays, to paste: each family by itself; over the kit's rows on nI and upd -/
/-! ===== order of ints, in all its forms, and through longs ===== -/
theorem fa_lt (a b : Int32) : a < b ↔ a.toInt < b.toInt := Int32.lt_iff_toInt_lt
theorem fa_le (a b : Int32) : a ≤ b ↔ a.toInt ≤ b.toInt := Int32.le_iff_toInt_le
theorem fa_eq (a b : Int32) : a = b ↔ a.toInt = b.toInt := Int32.toInt_inj.symm
theorem fa_lt64 (a b : Int64) : a < b ↔ a.toInt < b.toInt := Int64.lt_iff_toInt_lt
theorem fa_le64 (a b : Int64) : a ≤ b ↔ a.toInt ≤ b.toInt := Int64.le_iff_toInt_le
theorem fa_eq64 (a b : Int64) : a = b ↔ a.toInt = b.toInt := Int64.toInt_inj.symm
/-- a comparison of two ints taken as longs -/
theorem fa_wide_lt (a b : Int32) : a.toInt64 < b.toInt64 ↔ a < b := by rw [fa_lt64, fa_lt, Int32.toInt_toInt64, Int32.toInt_toInt64]
theorem fa_wide_le (a b : Int32) : a.toInt64 ≤ b.toInt64 ↔ a ≤ b := by rw [fa_le64, fa_le, Int32.toInt_toInt64, Int32.toInt_toInt64]
theorem fa_wide_eq (a b : Int32) : a.toInt64 = b.toInt64 ↔ a = b := by rw [fa_eq64, fa_eq, Int32.toInt_toInt64, Int32.toInt_toInt64]
/-- one strict comparison gives all the others -/
theorem fa_of_lt {a b : Int32} (h : a < b) : a ≤ b ∧ ¬ b ≤ a ∧ ¬ b < a ∧ a ≠ b ∧ b ≠ a := by
  rw [fa_lt] at h
  refine ⟨?_, ?_, ?_, ?_, ?_⟩
  · rw [fa_le]; omega
  · rw [fa_le]; omega
  · rw [fa_lt]; omega
  · intro e; rw [fa_eq] at e; omega
  · intro e; rw [fa_eq] at e; omega
theorem fa_of_nlt {a b : Int32} (h : ¬ a < b) : b ≤ a := by
  rw [fa_lt] at h
  rw [fa_le]
  omega
theorem fa_of_nle {a b : Int32} (h : ¬ a ≤ b) : b < a := by
  rw [fa_le] at h
  rw [fa_lt]
  omega
theorem fa_le_ne {a b : Int32} (h : a ≤ b) (h2 : a ≠ b) : a < b := by
  rw [fa_le] at h
  rw [fa_lt]
  have h3 : a.toInt ≠ b.toInt := fun e => h2 ((fa_eq a b).mpr e)
  omega
theorem fa_three (a b : Int32) : a < b ∨ a = b ∨ b < a := by
  rw [fa_lt, fa_lt, fa_eq]
  omega
theorem fa_trans {a b c : Int32} (h : a < b) (h2 : b ≤ c) : a < c := by
  rw [fa_lt] at *
  rw [fa_le] at h2
  omega
/-! ===== small literals as numbers ===== -/
theorem fa_lit (n : Nat) : (OfNat.ofNat n : Int32) = nI n := rfl
theorem fa_litL (n : Nat) : (OfNat.ofNat n : Int64) = lN n := rfl
/-! ===== bits of a number: 'or', masks, one bit ===== -/
theorem fa_and (a b : Nat) : nI a &&& nI b = nI (a &&& b) := by
  apply Int32.toBitVec_inj.1
  show BitVec.ofNat 32 a &&& BitVec.ofNat 32 b = BitVec.ofNat 32 (a &&& b)
  apply BitVec.eq_of_getLsbD_eq
  intro i hi
  simp [hi]
theorem fa_or (a b : Nat) : nI a ||| nI b = nI (a ||| b) := by
  apply Int32.toBitVec_inj.1
  show BitVec.ofNat 32 a ||| BitVec.ofNat 32 b = BitVec.ofNat 32 (a ||| b)
  apply BitVec.eq_of_getLsbD_eq
  intro i hi
  simp [hi]
/-- a remainder by a power of two, as a mask -/
theorem fa_mask (n k : Nat) : nI n &&& nI (2 ^ k - 1) = nI (n % 2 ^ k) := by rw [fa_and, Nat.and_two_pow_sub_one_eq_mod]
/-- 'or' of a high part and a low one that don't meet is their sum -/
theorem fa_or_sum {a k : Nat} (b : Nat) (h : a < 2 ^ k) : nI (2 ^ k * b) ||| nI a = nI (2 ^ k * b + a) := by rw [fa_or, Nat.two_pow_add_eq_or_of_lt h]
/-- one bit, by 'and' with a power of two -/
theorem fa_bit {n j : Nat} (hj : j < 31) : nI n &&& nI (2 ^ j) = 0 ↔ n.testBit j = false := by
  have h2 : (2 : Nat) ^ j < 2 ^ 31 := Nat.pow_lt_pow_right (by decide) hj
  have hle : n &&& 2 ^ j ≤ 2 ^ j := Nat.and_le_right
  have e : n &&& 2 ^ j = 0 ↔ n.testBit j = false := by
    constructor
    · intro h
      have h1 : (n &&& 2 ^ j).testBit j = false := by rw [h]; simp
      rw [Nat.testBit_and] at h1
      first | simpa using h1 | simpa [Nat.testBit_two_pow_self] using h1 | simpa [Nat.testBit_two_pow] using h1
    · intro h
      apply Nat.eq_of_testBit_eq
      intro i
      rw [Nat.testBit_and]
      by_cases hi : j = i
      · subst hi; simp [h]
      · first | (simp [Nat.testBit_two_pow, hi]; done) | (simp [Nat.testBit_two_pow_of_ne hi]; done)
  rw [fa_and]
  constructor
  · intro h
    apply e.mp
    rcases Nat.eq_zero_or_pos (n &&& 2 ^ j) with z | z
    · exact z
    · exact absurd h (nI_ne0 z (Nat.lt_of_le_of_lt hle h2))
  · intro h
    rw [e.mpr h]; exact nI_0
/-- a remainder by a power of two of a number that isn't negative, as Java divides -/
theorem fa_rem {a k : Nat} (ha : a < 2 ^ 31) (hk : k < 31) : nI a - nI a / nI (2 ^ k) * nI (2 ^ k) = nI (a % 2 ^ k) := pk_rem ha (Nat.two_pow_pos k) (Nat.pow_lt_pow_right (by decide) hk)
/-! ===== cuts to a byte, a short ===== -/
theorem fa_byte_xor (x y : Int32) : (x ^^^ y).toInt8 = x.toInt8 ^^^ y.toInt8 := by
  apply Int8.toBitVec_inj.1
  apply BitVec.eq_of_getLsbD_eq
  intro i hi
  first | (simp [hi]; done) | (simp [hi, BitVec.getLsbD_setWidth, BitVec.getLsbD_signExtend]; done)
theorem fa_short_xor (x y : Int32) : (x ^^^ y).toInt16 = x.toInt16 ^^^ y.toInt16 := by
  apply Int16.toBitVec_inj.1
  apply BitVec.eq_of_getLsbD_eq
  intro i hi
  first | (simp [hi]; done) | (simp [hi, BitVec.getLsbD_setWidth, BitVec.getLsbD_signExtend]; done)
/-- the cut to a byte sees the low byte alone -/
theorem fa_byte_low (x : Int32) : (x &&& 255).toInt8 = x.toInt8 := by
  apply Int8.toBitVec_inj.1
  apply BitVec.eq_of_getLsbD_eq
  intro i hi
  have h2 : (255 : Int32).toBitVec.getLsbD i = true := by
    have : ∀ j : Fin 8, (255 : Int32).toBitVec.getLsbD j.val = true := by decide +kernel
    exact this ⟨i, hi⟩
  have h4 : (x &&& 255).toBitVec.getLsbD i = x.toBitVec.getLsbD i := by
    show (x.toBitVec &&& (255 : Int32).toBitVec).getLsbD i = _
    rw [BitVec.getLsbD_and, h2, Bool.and_true]
  have h3 : i < 32 := by omega
  first
    | (show (((x &&& 255).toBitVec).signExtend 8).getLsbD i = (x.toBitVec.signExtend 8).getLsbD i; rw [BitVec.getLsbD_signExtend, BitVec.getLsbD_signExtend, if_pos h3, if_pos h3, h4])
    | (show (((x &&& 255).toBitVec).setWidth 8).getLsbD i = (x.toBitVec.setWidth 8).getLsbD i; rw [BitVec.getLsbD_setWidth, BitVec.getLsbD_setWidth, h4])
    | (simp [hi, h3, h4]; done)
theorem fa_short_low (x : Int32) : (x &&& 65535).toInt16 = x.toInt16 := by
  apply Int16.toBitVec_inj.1
  apply BitVec.eq_of_getLsbD_eq
  intro i hi
  have h2 : (65535 : Int32).toBitVec.getLsbD i = true := by
    have : ∀ j : Fin 16, (65535 : Int32).toBitVec.getLsbD j.val = true := by decide +kernel
    exact this ⟨i, hi⟩
  have h4 : (x &&& 65535).toBitVec.getLsbD i = x.toBitVec.getLsbD i := by
    show (x.toBitVec &&& (65535 : Int32).toBitVec).getLsbD i = _
    rw [BitVec.getLsbD_and, h2, Bool.and_true]
  have h3 : i < 32 := by omega
  first
    | (show (((x &&& 65535).toBitVec).signExtend 16).getLsbD i = (x.toBitVec.signExtend 16).getLsbD i; rw [BitVec.getLsbD_signExtend, BitVec.getLsbD_signExtend, if_pos h3, if_pos h3, h4])
    | (show (((x &&& 65535).toBitVec).setWidth 16).getLsbD i = (x.toBitVec.setWidth 16).getLsbD i; rw [BitVec.getLsbD_setWidth, BitVec.getLsbD_setWidth, h4])
    | (simp [hi, h3, h4]; done)
/-- a small number is its own byte, its own short -/
theorem fa_byte_small {n : Nat} (h : n < 128) : (nI n).toInt8.toInt32 = nI n := by
  have : ∀ j : Fin 128, (nI j.val).toInt8.toInt32 = nI j.val := by decide +kernel
  exact this ⟨n, h⟩
/-! ===== absolute difference ===== -/
theorem fa_absdiff {a b : Nat} (ha : a < 2 ^ 31) (hb : b < 2 ^ 31) : (if nI a < nI b then nI b - nI a else nI a - nI b) = nI (if a < b then b - a else a - b) := by
  by_cases h : a < b
  · rw [if_pos (nI_lt h hb), if_pos h]
    exact pk_sub (Nat.le_of_lt h)
  · rw [if_neg (nI_nlt (Nat.le_of_not_lt h) ha), if_neg h]
    exact pk_sub (Nat.le_of_not_lt h)
/-! ===== an array behind i stores, a conditional store, a row copied ===== -/
/-- f where k < i, what stood there else -/
def fa_fill {α : Type} (f g : Nat → α) (i : Nat) : Nat → α := fun k => if k < i then f k else g k
theorem fa_fill_0 {α : Type} (f g : Nat → α) : fa_fill f g 0 = g := funext fun k => if_neg (Nat.not_lt_zero k)
theorem fa_fill_in {α : Type} {f g : Nat → α} {i k : Nat} (h : k < i) : fa_fill f g i k = f k := if_pos h
theorem fa_fill_out {α : Type} {f g : Nat → α} {i k : Nat} (h : i ≤ k) : fa_fill f g i k = g k := if_neg (Nat.not_lt.mpr h)
theorem fa_fill_succ (f g : Nat → Int32) (i : Nat) : upd (fa_fill f g i) i (f i) = fa_fill f g (i + 1) := by
  funext k
  by_cases e : k = i
  · subst e
    rw [pk_us]
    exact (if_pos (Nat.lt_succ_self k)).symm
  · rw [pk_un e]
    by_cases h : k < i
    · rw [fa_fill_in h, fa_fill_in (Nat.lt_succ_of_lt h)]
    · rw [fa_fill_out (Nat.le_of_not_lt h), fa_fill_out (by omega)]
/-- a store that changes nothing -/
theorem fa_upd_same {f : Nat → Int32} {i : Nat} {x : Int32} (h : f i = x) : upd f i x = f := by
  funext k
  by_cases e : k = i
  · subst e
    rw [pk_us, h]
  · rw [pk_un e]
/-- a store under a condition, told as one -/
theorem fa_upd_if (c : Prop) [Decidable c] (f : Nat → Int32) (i : Nat) (x : Int32) : (if c then upd f i x else f) = upd f i (if c then x else f i) := by
  by_cases h : c
  · rw [if_pos h, if_pos h]
  · rw [if_neg h, if_neg h, fa_upd_same rfl]
/-- two stores at one place, at two -/
theorem fa_upd_twice (f : Nat → Int32) (i : Nat) (x y : Int32) : upd (upd f i x) i y = upd f i y := by
  funext k
  by_cases e : k = i
  · subst e
    rw [pk_us, pk_us]
  · rw [pk_un e, pk_un e, pk_un e]
theorem fa_upd_swap (f : Nat → Int32) {i j : Nat} (h : i ≠ j) (x y : Int32) : upd (upd f i x) j y = upd (upd f j y) i x := by
  funext k
  by_cases e : k = i
  · subst e
    rw [pk_un h, pk_us, pk_us]
  · by_cases e2 : k = j
    · subst e2
      rw [pk_us, pk_un e, pk_us]
    · rw [pk_un e2, pk_un e, pk_un e, pk_un e2]
/-! ===== the first index with a property; a count ===== -/
/-- the first k < n with p k, n if there is none -/
def fa_first (p : Nat → Bool) : Nat → Nat
  | 0 => 0
  | n + 1 => if fa_first p n < n then fa_first p n else if p n then n else n + 1
theorem fa_first_le (p : Nat → Bool) : ∀ n, fa_first p n ≤ n
  | 0 => Nat.le_refl 0
  | n + 1 => by
    have ih := fa_first_le p n
    unfold fa_first
    split
    · omega
    · split
      · omega
      · omega
theorem fa_first_no (p : Nat → Bool) : ∀ n k, k < fa_first p n → p k = false
  | 0, k, h => absurd h (Nat.not_lt_zero k)
  | n + 1, k, h => by
    have ih := fa_first_no p n
    have hl := fa_first_le p n
    unfold fa_first at h
    split at h
    · exact ih k h
    · rename_i h1
      split at h
      · exact ih k (by omega)
      · rename_i h2
        by_cases e : k = n
        · subst e
          exact Bool.eq_false_iff.mpr h2
        · exact ih k (by omega)
theorem fa_first_yes (p : Nat → Bool) : ∀ n, fa_first p n < n → p (fa_first p n) = true
  | 0, h => absurd h (Nat.not_lt_zero _)
  | n + 1, h => by
    have ih := fa_first_yes p n
    have hl := fa_first_le p n
    unfold fa_first at h ⊢
    split at h
    · rename_i h1
      rw [if_pos h1]
      exact ih h1
    · rename_i h1
      rw [if_neg h1]
      split at h
      · rename_i h2
        rw [if_pos h2]
        exact h2
      · omega
/-- how many k < n have p k -/
def fa_cnt (p : Nat → Bool) : Nat → Nat
  | 0 => 0
  | n + 1 => fa_cnt p n + if p n then 1 else 0
theorem fa_cnt_le (p : Nat → Bool) : ∀ n, fa_cnt p n ≤ n
  | 0 => Nat.le_refl 0
  | n + 1 => by
    have ih := fa_cnt_le p n
    unfold fa_cnt
    split
    · omega
    · omega
theorem fa_cnt_yes {p : Nat → Bool} {n : Nat} (h : p n = true) : fa_cnt p (n + 1) = fa_cnt p n + 1 := by rw [fa_cnt, if_pos h]
theorem fa_cnt_no {p : Nat → Bool} {n : Nat} (h : p n = false) : fa_cnt p (n + 1) = fa_cnt p n := by rw [fa_cnt, if_neg (by rw [h]; decide)]; rfl
theorem fa_cnt_cong {p q : Nat → Bool} : ∀ {n : Nat}, (∀ k, k < n → p k = q k) → fa_cnt p n = fa_cnt q n
  | 0, _ => rfl
  | n + 1, h => by rw [fa_cnt, fa_cnt, fa_cnt_cong (fun k hk => h k (Nat.lt_succ_of_lt hk)), h n (Nat.lt_succ_self n)]
/-! ===== an answer carried into a post; a branch on a boolean answer ===== -/
theorem fa_post {α : Type} {P : α → Prop} {x y : α} (h : x = y) (hp : P y) : P x := h ▸ hp
theorem fa_post2 {α β : Type} {P : α → β → Prop} {x y : α} {u v : β} (h : x = y) (h2 : u = v) (hp : P y v) : P x u := h ▸ h2 ▸ hp
theorem fa_bool {r : Int32} {b : Bool} (h : r = if b then 1 else 0) : (r = 0 ↔ b = false) ∧ (¬ r = 0 ↔ b = true) := by
  subst h
  cases b
  · exact ⟨⟨fun _ => rfl, fun _ => rfl⟩, ⟨fun h => absurd rfl h, fun h => absurd h (by decide)⟩⟩
  · exact ⟨⟨fun h => absurd h (by decide), fun h => absurd h (by decide)⟩, ⟨fun _ => rfl, fun _ => by decide⟩⟩
/-- a boolean's narrowing changes nothing -/
theorem fa_bool_and {r : Int32} (h : r = 0 ∨ r = 1) : r &&& 1 = r := by
  rcases h with rfl | rfl
  · decide
  · decide
theorem fa_bool_prop {c : Prop} [Decidable c] {r : Int32} (h : r = if c then 1 else 0) : (r = 0 ↔ ¬ c) ∧ (¬ r = 0 ↔ c) := by
  subst h
  by_cases hc : c
  · rw [if_pos hc]
    exact ⟨⟨fun h => absurd h (by decide), fun h => absurd hc h⟩, ⟨fun _ => hc, fun _ => by decide⟩⟩
  · rw [if_neg hc]
    exact ⟨⟨fun _ => hc, fun _ => rfl⟩, ⟨fun h => absurd rfl h, fun h => absurd h hc⟩⟩
/-! plain facts to paste, each family by itself; over the kit's nI, lN and upd -/
/-! ===== drawers: more things than places ===== -/
theorem fb_holes : ∀ (m n : Nat) (f : Nat → Nat), (∀ i, i < n → f i < m) → (∀ i j, i < j → j < n → f i ≠ f j) → n ≤ m := by
  intro m
  induction m with
  | zero =>
    intro n f h1 _
    rcases Nat.eq_zero_or_pos n with h | h
    · omega
    · exact absurd (h1 0 h) (Nat.not_lt_zero _)
  | succ m ih =>
    intro n f h1 h2
    by_cases hx : ∃ i, i < n ∧ f i = m
    · obtain ⟨a, ha, hfa⟩ := hx
      have hg := ih (n - 1) (fun i => if i < a then f i else f (i + 1)) (by
        intro i hi
        by_cases q : i < a
        · simp only [if_pos q]
          have b1 := h1 i (by omega)
          have b2 := h2 i a q ha
          omega
        · simp only [if_neg q]
          have b1 := h1 (i + 1) (by omega)
          have b2 := h2 a (i + 1) (by omega) (by omega)
          omega) (by
        intro i j hij hj
        by_cases q : i < a
        · by_cases r : j < a
          · simp only [if_pos q, if_pos r]
            exact h2 i j hij (by omega)
          · simp only [if_pos q, if_neg r]
            exact h2 i (j + 1) (by omega) (by omega)
        · have r : ¬ j < a := by omega
          simp only [if_neg q, if_neg r]
          exact h2 (i + 1) (j + 1) (by omega) (by omega))
      omega
    · have hg := ih n f (fun i hi => by
        have b1 := h1 i hi
        have b2 : f i ≠ m := fun e => hx ⟨i, hi, e⟩
        omega) h2
      omega
/-- two of them in one place -/
theorem fb_twice {m n : Nat} {f : Nat → Nat} (h : ∀ i, i < n → f i < m) (hm : m < n) : ∃ i j, i < j ∧ j < n ∧ f i = f j := by
  refine Classical.byContradiction fun hx => ?_
  have := fb_holes m n f h (fun i j hij hj e => hx ⟨i, j, hij, hj, e⟩)
  omega
/-- as many as places, none twice: each place is taken -/
theorem fb_onto {n : Nat} {f : Nat → Nat} (h : ∀ i, i < n → f i < n) (h2 : ∀ i j, i < j → j < n → f i ≠ f j) {y : Nat} (hy : y < n) : ∃ i, i < n ∧ f i = y := by
  refine Classical.byContradiction fun hx => ?_
  have hne : ∀ i, i < n → f i ≠ y := fun i hi e => hx ⟨i, hi, e⟩
  have := fb_holes (n - 1) n (fun i => if f i < y then f i else f i - 1) (by
    intro i hi
    have b1 := h i hi
    have b2 := hne i hi
    by_cases q : f i < y
    · simp only [if_pos q]; omega
    · simp only [if_neg q]; omega) (by
    intro i j hij hj
    have b1 := hne i (by omega)
    have b2 := hne j hj
    have b3 := h2 i j hij hj
    by_cases q : f i < y
    · by_cases r : f j < y
      · simp only [if_pos q, if_pos r]; exact b3
      · simp only [if_pos q, if_neg r]; omega
    · by_cases r : f j < y
      · simp only [if_neg q, if_pos r]; omega
      · simp only [if_neg q, if_neg r]; omega)
  omega
/-! ===== how many places have a property ===== -/
def fb_ct (p : Nat → Bool) : Nat → Nat
  | 0 => 0
  | n + 1 => fb_ct p n + (if p n then 1 else 0)
theorem fb_ct_succ (p : Nat → Bool) (n : Nat) : fb_ct p (n + 1) = fb_ct p n + (if p n then 1 else 0) := rfl
theorem fb_ct_le (p : Nat → Bool) : ∀ n, fb_ct p n ≤ n
  | 0 => Nat.le_refl _
  | n + 1 => by
    have h := fb_ct_le p n
    rw [fb_ct_succ]
    split <;> omega
theorem fb_ct_step (p : Nat → Bool) (m : Nat) : ∀ n, fb_ct p m ≤ fb_ct p (m + n)
  | 0 => Nat.le_refl _
  | n + 1 => by
    have h := fb_ct_step p m n
    show fb_ct p m ≤ fb_ct p (m + n + 1)
    rw [fb_ct_succ]
    omega
theorem fb_ct_mono (p : Nat → Bool) {m n : Nat} (h : m ≤ n) : fb_ct p m ≤ fb_ct p n := by
  have := fb_ct_step p m (n - m)
  rwa [Nat.add_sub_cancel' h] at this
theorem fb_ct_cong {p q : Nat → Bool} : ∀ {n : Nat}, (∀ k, k < n → p k = q k) → fb_ct p n = fb_ct q n
  | 0, _ => rfl
  | n + 1, h => by
    rw [fb_ct_succ, fb_ct_succ, fb_ct_cong (fun k hk => h k (by omega)), h n (by omega)]
/-- one place changed -/
theorem fb_ct_out (p : Nat → Bool) (b : Bool) {i n : Nat} (h : n ≤ i) : fb_ct (fun k => if k = i then b else p k) n = fb_ct p n :=
  fb_ct_cong fun k hk => if_neg (by omega)
theorem fb_ct_upd (p : Nat → Bool) (b : Bool) {i : Nat} : ∀ {n : Nat}, i < n → fb_ct (fun k => if k = i then b else p k) n + (if p i then 1 else 0) = fb_ct p n + (if b then 1 else 0)
  | 0, h => absurd h (Nat.not_lt_zero i)
  | n + 1, h => by
    rw [fb_ct_succ, fb_ct_succ]
    rcases Nat.lt_or_ge i n with q | q
    · have := fb_ct_upd p b q
      have e : (if n = i then b else p n) = p n := if_neg (by omega)
      rw [e]
      omega
    · have e : i = n := by omega
      subst e
      rw [fb_ct_out p b (Nat.le_refl _)]
      simp only [if_true]
      omega
theorem fb_ct_sub {p q : Nat → Bool} : ∀ {n : Nat}, (∀ k, k < n → p k = true → q k = true) → fb_ct p n ≤ fb_ct q n
  | 0, _ => Nat.le_refl _
  | n + 1, h => by
    have h1 := fb_ct_sub (n := n) (p := p) (q := q) (fun k hk => h k (by omega))
    have h2 := h n (by omega)
    rw [fb_ct_succ, fb_ct_succ]
    cases hp : p n <;> cases hq : q n <;> simp_all <;> omega
theorem fb_ct_or {p q : Nat → Bool} : ∀ {n : Nat}, (∀ k, k < n → ¬ (p k = true ∧ q k = true)) → fb_ct (fun k => p k || q k) n = fb_ct p n + fb_ct q n
  | 0, _ => rfl
  | n + 1, h => by
    have h1 := fb_ct_or (n := n) (p := p) (q := q) (fun k hk => h k (by omega))
    have h2 := h n (by omega)
    rw [fb_ct_succ, fb_ct_succ, fb_ct_succ, h1]
    cases hp : p n <;> cases hq : q n <;> simp_all <;> omega
theorem fb_ct_not (p : Nat → Bool) : ∀ n, fb_ct p n + fb_ct (fun k => !p k) n = n
  | 0 => rfl
  | n + 1 => by
    have h := fb_ct_not p n
    rw [fb_ct_succ, fb_ct_succ]
    cases p n <;> simp <;> omega
theorem fb_ct_split (p : Nat → Bool) (m : Nat) : ∀ n, fb_ct p (m + n) = fb_ct p m + fb_ct (fun k => p (m + k)) n
  | 0 => rfl
  | n + 1 => by
    have h := fb_ct_split p m n
    show fb_ct p (m + n + 1) = _
    rw [fb_ct_succ, fb_ct_succ, h, Nat.add_assoc]
theorem fb_ct_zero {p : Nat → Bool} : ∀ {n : Nat}, fb_ct p n = 0 ↔ ∀ k, k < n → p k = false
  | 0 => ⟨fun _ k hk => absurd hk (Nat.not_lt_zero k), fun _ => rfl⟩
  | n + 1 => by
    have h := fb_ct_zero (p := p) (n := n)
    rw [fb_ct_succ]
    constructor
    · intro e k hk
      have e1 : fb_ct p n = 0 := by omega
      rcases Nat.lt_or_ge k n with q | q
      · exact h.mp e1 k q
      · have ek : k = n := by omega
        subst ek
        cases hp : p k
        · rfl
        · simp [hp] at e
    · intro a
      rw [h.mpr (fun k hk => a k (by omega)), a n (by omega)]
      rfl
theorem fb_ct_pos {p : Nat → Bool} {n : Nat} : 0 < fb_ct p n ↔ ∃ k, k < n ∧ p k = true := by
  constructor
  · intro h
    refine Classical.byContradiction fun hx => ?_
    have := fb_ct_zero.mpr (fun k hk => by
      cases hp : p k
      · rfl
      · exact absurd ⟨k, hk, hp⟩ hx : ∀ k, k < n → p k = false)
    omega
  · rintro ⟨k, hk, hp⟩
    rcases Nat.eq_zero_or_pos (fb_ct p n) with e | e
    · have := fb_ct_zero.mp e k hk
      rw [this] at hp
      cases hp
    · exact e
theorem fb_ct_all {p : Nat → Bool} {n : Nat} : fb_ct p n = n ↔ ∀ k, k < n → p k = true := by
  have h := fb_ct_not p n
  constructor
  · intro e k hk
    have z : fb_ct (fun k => !p k) n = 0 := by omega
    have := fb_ct_zero.mp z k hk
    cases hp : p k
    · simp [hp] at this
    · rfl
  · intro a
    have z : fb_ct (fun k => !p k) n = 0 := fb_ct_zero.mpr (fun k hk => by simp [a k hk])
    omega
/-- the k-th place with the property -/
theorem fb_ct_kth {p : Nat → Bool} {k : Nat} : ∀ {n : Nat}, k < fb_ct p n → ∃ i, i < n ∧ p i = true ∧ fb_ct p i = k
  | 0, h => absurd h (Nat.not_lt_zero k)
  | n + 1, h => by
    rcases Nat.lt_or_ge k (fb_ct p n) with q | q
    · obtain ⟨i, h1, h2⟩ := fb_ct_kth q
      exact ⟨i, by omega, h2⟩
    · rw [fb_ct_succ] at h
      cases hp : p n
      · simp [hp] at h; omega
      · simp [hp] at h
        exact ⟨n, by omega, hp, by omega⟩
theorem fb_ct_kth_one {p : Nat → Bool} {i j : Nat} (hi : p i = true) (hj : p j = true) (e : fb_ct p i = fb_ct p j) : i = j := by
  have key : ∀ a b : Nat, a < b → p a = true → fb_ct p a < fb_ct p b := by
    intro a b hab ha
    have h := fb_ct_mono p (show a + 1 ≤ b from hab)
    rw [fb_ct_succ, ha] at h
    simp at h
    omega
  rcases Nat.lt_trichotomy i j with q | q | q
  · have := key i j q hi; omega
  · exact q
  · have := key j i q hj; omega
/-! ===== sums over a range: one place changed, parts, bounds ===== -/
def fb_sm (f : Nat → Nat) : Nat → Nat
  | 0 => 0
  | n + 1 => fb_sm f n + f n
theorem fb_sm_succ (f : Nat → Nat) (n : Nat) : fb_sm f (n + 1) = fb_sm f n + f n := rfl
theorem fb_sm_cong {f g : Nat → Nat} : ∀ {n : Nat}, (∀ k, k < n → f k = g k) → fb_sm f n = fb_sm g n
  | 0, _ => rfl
  | n + 1, h => by rw [fb_sm_succ, fb_sm_succ, fb_sm_cong (fun k hk => h k (by omega)), h n (by omega)]
theorem fb_sm_out (f : Nat → Nat) (v : Nat) {i n : Nat} (h : n ≤ i) : fb_sm (fun k => if k = i then v else f k) n = fb_sm f n :=
  fb_sm_cong fun k hk => if_neg (by omega)
theorem fb_sm_upd (f : Nat → Nat) (v : Nat) {i : Nat} : ∀ {n : Nat}, i < n → fb_sm (fun k => if k = i then v else f k) n + f i = fb_sm f n + v
  | 0, h => absurd h (Nat.not_lt_zero i)
  | n + 1, h => by
    rw [fb_sm_succ, fb_sm_succ]
    rcases Nat.lt_or_ge i n with q | q
    · have := fb_sm_upd f v q
      have e : (if n = i then v else f n) = f n := if_neg (by omega)
      rw [e]
      omega
    · have e : i = n := by omega
      subst e
      rw [fb_sm_out f v (Nat.le_refl _)]
      simp only [if_true]
      omega
theorem fb_sm_add (f g : Nat → Nat) : ∀ n, fb_sm (fun k => f k + g k) n = fb_sm f n + fb_sm g n
  | 0 => rfl
  | n + 1 => by
    have h := fb_sm_add f g n
    rw [fb_sm_succ, fb_sm_succ, fb_sm_succ, h]
    omega
theorem fb_sm_le {f g : Nat → Nat} : ∀ {n : Nat}, (∀ k, k < n → f k ≤ g k) → fb_sm f n ≤ fb_sm g n
  | 0, _ => Nat.le_refl _
  | n + 1, h => by
    have h1 := fb_sm_le (n := n) (f := f) (g := g) (fun k hk => h k (by omega))
    have h2 := h n (by omega)
    rw [fb_sm_succ, fb_sm_succ]
    omega
theorem fb_sm_const (c : Nat) : ∀ n, fb_sm (fun _ => c) n = n * c
  | 0 => by rw [Nat.zero_mul]; rfl
  | n + 1 => by rw [fb_sm_succ, fb_sm_const c n, Nat.succ_mul]
theorem fb_sm_bound {f : Nat → Nat} {c n : Nat} (h : ∀ k, k < n → f k ≤ c) : fb_sm f n ≤ n * c := by
  rw [← fb_sm_const c n]
  exact fb_sm_le h
theorem fb_sm_mono (f : Nat → Nat) (m : Nat) : ∀ n, fb_sm f m ≤ fb_sm f (m + n)
  | 0 => Nat.le_refl _
  | n + 1 => by
    have h := fb_sm_mono f m n
    show fb_sm f m ≤ fb_sm f (m + n + 1)
    rw [fb_sm_succ]
    omega
theorem fb_sm_part (f : Nat → Nat) {i n : Nat} (h : i < n) : fb_sm f i + f i ≤ fb_sm f n := by
  have := fb_sm_mono f (i + 1) (n - (i + 1))
  rw [fb_sm_succ, show i + 1 + (n - (i + 1)) = n by omega] at this
  exact this
theorem fb_sm_split (f : Nat → Nat) (m : Nat) : ∀ n, fb_sm f (m + n) = fb_sm f m + fb_sm (fun k => f (m + k)) n
  | 0 => rfl
  | n + 1 => by
    have h := fb_sm_split f m n
    show fb_sm f (m + n + 1) = _
    rw [fb_sm_succ, fb_sm_succ, h, Nat.add_assoc]
theorem fb_sm_zero {f : Nat → Nat} {n : Nat} (h : fb_sm f n = 0) : ∀ k, k < n → f k = 0 := fun k hk => by
  have := fb_sm_part f hk
  omega
/-- the same over whole numbers -/
def fb_si (f : Nat → Int) : Nat → Int
  | 0 => 0
  | n + 1 => fb_si f n + f n
theorem fb_si_succ (f : Nat → Int) (n : Nat) : fb_si f (n + 1) = fb_si f n + f n := rfl
theorem fb_si_cong {f g : Nat → Int} : ∀ {n : Nat}, (∀ k, k < n → f k = g k) → fb_si f n = fb_si g n
  | 0, _ => rfl
  | n + 1, h => by rw [fb_si_succ, fb_si_succ, fb_si_cong (fun k hk => h k (by omega)), h n (by omega)]
theorem fb_si_out (f : Nat → Int) (v : Int) {i n : Nat} (h : n ≤ i) : fb_si (fun k => if k = i then v else f k) n = fb_si f n :=
  fb_si_cong fun k hk => if_neg (by omega)
theorem fb_si_upd (f : Nat → Int) (v : Int) {i : Nat} : ∀ {n : Nat}, i < n → fb_si (fun k => if k = i then v else f k) n = fb_si f n - f i + v
  | 0, h => absurd h (Nat.not_lt_zero i)
  | n + 1, h => by
    rw [fb_si_succ, fb_si_succ]
    rcases Nat.lt_or_ge i n with q | q
    · have := fb_si_upd f v q
      have e : (if n = i then v else f n) = f n := if_neg (by omega)
      rw [e]
      omega
    · have e : i = n := by omega
      subst e
      rw [fb_si_out f v (Nat.le_refl _)]
      simp only [if_true]
      omega
theorem fb_si_add (f g : Nat → Int) : ∀ n, fb_si (fun k => f k + g k) n = fb_si f n + fb_si g n
  | 0 => rfl
  | n + 1 => by
    have h := fb_si_add f g n
    rw [fb_si_succ, fb_si_succ, fb_si_succ, h]
    omega
theorem fb_si_sub (f g : Nat → Int) : ∀ n, fb_si (fun k => f k - g k) n = fb_si f n - fb_si g n
  | 0 => rfl
  | n + 1 => by
    have h := fb_si_sub f g n
    rw [fb_si_succ, fb_si_succ, fb_si_succ, h]
    omega
theorem fb_si_mul (c : Int) (f : Nat → Int) : ∀ n, fb_si (fun k => c * f k) n = c * fb_si f n
  | 0 => (Int.mul_zero c).symm
  | n + 1 => by
    have h := fb_si_mul c f n
    rw [fb_si_succ, fb_si_succ, h, Int.mul_add]
theorem fb_si_split (f : Nat → Int) (m : Nat) : ∀ n, fb_si f (m + n) = fb_si f m + fb_si (fun k => f (m + k)) n
  | 0 => (Int.add_zero _).symm
  | n + 1 => by
    have h := fb_si_split f m n
    show fb_si f (m + n + 1) = _
    rw [fb_si_succ, fb_si_succ, h, Int.add_assoc]
theorem fb_si_nat (f : Nat → Nat) : ∀ n, fb_si (fun k => (f k : Int)) n = (fb_sm f n : Int)
  | 0 => rfl
  | n + 1 => by
    have h := fb_si_nat f n
    rw [fb_si_succ, fb_sm_succ, h]
    omega
theorem fb_si_bound {f : Nat → Int} {c : Int} (hc : 0 ≤ c) : ∀ {n : Nat}, (∀ k, k < n → -c ≤ f k ∧ f k ≤ c) → -(n * c) ≤ fb_si f n ∧ fb_si f n ≤ n * c
  | 0, _ => by simp [fb_si]
  | n + 1, h => by
    have h1 := fb_si_bound (n := n) (f := f) hc (fun k hk => h k (by omega))
    have h2 := h n (by omega)
    have e : ((n + 1 : Nat) : Int) * c = n * c + c := by rw [Int.natCast_add, Int.add_mul]; simp
    rw [fb_si_succ, e]
    omega
/-! ===== bits of a long that isn't negative ===== -/
theorem fb_andL (a b : Nat) : lN a &&& lN b = lN (a &&& b) := by
  apply Int64.toBitVec_inj.1
  show BitVec.ofNat 64 a &&& BitVec.ofNat 64 b = BitVec.ofNat 64 (a &&& b)
  apply BitVec.eq_of_getLsbD_eq
  intro i hi
  simp [hi]
theorem fb_orL (a b : Nat) : lN a ||| lN b = lN (a ||| b) := by
  apply Int64.toBitVec_inj.1
  show BitVec.ofNat 64 a ||| BitVec.ofNat 64 b = BitVec.ofNat 64 (a ||| b)
  apply BitVec.eq_of_getLsbD_eq
  intro i hi
  simp [hi]
theorem fb_xorL (a b : Nat) : lN a ^^^ lN b = lN (a ^^^ b) := by
  apply Int64.toBitVec_inj.1
  show BitVec.ofNat 64 a ^^^ BitVec.ofNat 64 b = BitVec.ofNat 64 (a ^^^ b)
  apply BitVec.eq_of_getLsbD_eq
  intro i hi
  simp [hi]
theorem fb_xorI (a b : Nat) : nI a ^^^ nI b = nI (a ^^^ b) := by
  apply Int32.toBitVec_inj.1
  show BitVec.ofNat 32 a ^^^ BitVec.ofNat 32 b = BitVec.ofNat 32 (a ^^^ b)
  apply BitVec.eq_of_getLsbD_eq
  intro i hi
  simp [hi]
theorem fb_maskL (n k : Nat) : lN n &&& lN (2 ^ k - 1) = lN (n % 2 ^ k) := by rw [fb_andL, Nat.and_two_pow_sub_one_eq_mod]
theorem fb_or_sumL {a k : Nat} (b : Nat) (h : a < 2 ^ k) : lN (2 ^ k * b) ||| lN a = lN (2 ^ k * b + a) := by rw [fb_orL, Nat.two_pow_add_eq_or_of_lt h]
theorem fb_lN_inj {a b : Nat} (ha : a < 2 ^ 63) (hb : b < 2 ^ 63) : lN a = lN b ↔ a = b := by
  constructor
  · intro h
    have h1 : (BitVec.ofNat 64 a).toNat = (BitVec.ofNat 64 b).toNat := congrArg (fun x : Int64 => x.toBitVec.toNat) h
    rw [BitVec.toNat_ofNat, BitVec.toNat_ofNat, Nat.mod_eq_of_lt (by omega), Nat.mod_eq_of_lt (by omega)] at h1
    exact h1
  · rintro rfl; rfl
theorem fb_bit_nat (n j : Nat) : n &&& 2 ^ j = 0 ↔ n.testBit j = false := by
  constructor
  · intro h
    have h1 : (n &&& 2 ^ j).testBit j = false := by rw [h]; simp
    rw [Nat.testBit_and] at h1
    simpa using h1
  · intro h
    apply Nat.eq_of_testBit_eq
    intro i
    rw [Nat.testBit_and]
    by_cases hi : j = i
    · subst hi; simp [h]
    · first | (simp [Nat.testBit_two_pow, hi]; done) | (simp [Nat.testBit_two_pow_of_ne hi]; done)
/-- one bit of a long -/
theorem fb_bitL {n j : Nat} (hj : j < 63) : lN n &&& lN (2 ^ j) = 0 ↔ n.testBit j = false := by
  have h2 : (2 : Nat) ^ j < 2 ^ 63 := Nat.pow_lt_pow_right (by decide) hj
  have hle : n &&& 2 ^ j ≤ 2 ^ j := Nat.and_le_right
  rw [fb_andL, ← fb_bit_nat, show (0 : Int64) = lN 0 from rfl]
  exact fb_lN_inj (by omega) (by decide)
/-- a bit set, a bit taken off -/
theorem fb_bit_set (n j i : Nat) : (n ||| 2 ^ j).testBit i = (n.testBit i || decide (i = j)) := by
  rw [Nat.testBit_or]
  by_cases h : j = i
  · subst h; simp
  · have h2 : ¬ i = j := fun e => h e.symm
    first | (simp [Nat.testBit_two_pow, h, h2]; done) | (simp [Nat.testBit_two_pow_of_ne h, h2]; done)
theorem fb_bit_flip (n j i : Nat) : (n ^^^ 2 ^ j).testBit i = (n.testBit i ^^ decide (i = j)) := by
  rw [Nat.testBit_xor]
  by_cases h : j = i
  · subst h; simp
  · have h2 : ¬ i = j := fun e => h e.symm
    first | (simp [Nat.testBit_two_pow, h, h2]; done) | (simp [Nat.testBit_two_pow_of_ne h, h2]; done)
/-! ===== a stretch of an array written over by a function ===== -/
def fb_put {α : Type} (f g : Nat → α) (a n : Nat) : Nat → α := fun k => if a ≤ k ∧ k < a + n then g (k - a) else f k
theorem fb_put_0 {α : Type} (f g : Nat → α) (a : Nat) : fb_put f g a 0 = f := funext fun k => if_neg (by omega)
theorem fb_put_in {α : Type} {f g : Nat → α} {a n k : Nat} (h1 : a ≤ k) (h2 : k < a + n) : fb_put f g a n k = g (k - a) := if_pos ⟨h1, h2⟩
theorem fb_put_out {α : Type} {f g : Nat → α} {a n k : Nat} (h : k < a ∨ a + n ≤ k) : fb_put f g a n k = f k := if_neg (by omega)
theorem fb_put_succ (f g : Nat → Int32) (a n : Nat) : upd (fb_put f g a n) (a + n) (g n) = fb_put f g a (n + 1) := by
  funext k
  by_cases h : k = a + n
  · subst h
    simp [upd, fb_put]
  · by_cases h1 : a ≤ k ∧ k < a + n
    · have h2 : a ≤ k ∧ k < a + (n + 1) := by omega
      simp only [upd, fb_put, if_neg h, if_pos h1, if_pos h2]
    · have h2 : ¬ (a ≤ k ∧ k < a + (n + 1)) := by omega
      simp only [upd, fb_put, if_neg h, if_neg h1, if_neg h2]
/-- .. from the far end down -/
theorem fb_put_down (f g : Nat → Int32) {a n m : Nat} (h : m < n) : upd (fb_put f (fun k => g (k + (m + 1))) (a + (m + 1)) (n - (m + 1))) (a + m) (g m) = fb_put f (fun k => g (k + m)) (a + m) (n - m) := by
  funext k
  by_cases h0 : k = a + m
  · subst h0
    simp only [upd, if_true]
    rw [fb_put_in (by omega) (by omega)]
    exact congrArg g (by omega)
  · simp only [upd, if_neg h0]
    by_cases h1 : a + (m + 1) ≤ k ∧ k < a + (m + 1) + (n - (m + 1))
    · rw [fb_put_in h1.1 h1.2, fb_put_in (by omega) (by omega)]
      exact congrArg g (by omega)
    · rw [fb_put_out (by omega), fb_put_out (by omega)]
theorem fb_put_cong {α : Type} {f f2 g g2 : Nat → α} {a n : Nat} (hf : ∀ k, (k < a ∨ a + n ≤ k) → f k = f2 k) (hg : ∀ k, k < n → g k = g2 k) : fb_put f g a n = fb_put f2 g2 a n := by
  funext k
  by_cases h : a ≤ k ∧ k < a + n
  · rw [fb_put_in h.1 h.2, fb_put_in h.1 h.2, hg _ (by omega)]
  · rw [fb_put_out (by omega), fb_put_out (by omega), hf _ (by omega)]
/-! ===== the least, the first, the best so far; that there is one alone ===== -/
theorem fb_first {p : Nat → Prop} [DecidablePred p] : ∀ {n : Nat}, (∃ i, i < n ∧ p i) → ∃ i, i < n ∧ p i ∧ ∀ j, j < i → ¬ p j
  | 0, h => by obtain ⟨i, hi, -⟩ := h; exact absurd hi (Nat.not_lt_zero i)
  | n + 1, h => by
    by_cases q : ∃ i, i < n ∧ p i
    · obtain ⟨i, h1, h2⟩ := fb_first q
      exact ⟨i, by omega, h2⟩
    · obtain ⟨i, h1, h2⟩ := h
      have e : i = n := by
        rcases Nat.lt_or_ge i n with r | r
        · exact absurd ⟨i, r, h2⟩ q
        · omega
      subst e
      exact ⟨i, by omega, h2, fun j hj hp => q ⟨j, hj, hp⟩⟩
theorem fb_first_one {p : Nat → Prop} {i j : Nat} (hi : p i) (hi2 : ∀ k, k < i → ¬ p k) (hj : p j) (hj2 : ∀ k, k < j → ¬ p k) : i = j := by
  rcases Nat.lt_trichotomy i j with q | q | q
  · exact absurd hi (hj2 i q)
  · exact q
  · exact absurd hj (hi2 j q)
theorem fb_last {p : Nat → Prop} [DecidablePred p] : ∀ {n : Nat}, (∃ i, i < n ∧ p i) → ∃ i, i < n ∧ p i ∧ ∀ j, i < j → j < n → ¬ p j
  | 0, h => by obtain ⟨i, hi, -⟩ := h; exact absurd hi (Nat.not_lt_zero i)
  | n + 1, h => by
    by_cases q : p n
    · exact ⟨n, by omega, q, fun j h1 h2 => by omega⟩
    · obtain ⟨i, h1, h2⟩ := h
      have hi : i < n := by
        rcases Nat.lt_or_ge i n with r | r
        · exact r
        · have e : i = n := by omega
          subst e
          exact absurd h2 q
      obtain ⟨i2, a1, a2, a3⟩ := fb_last (n := n) ⟨i, hi, h2⟩
      refine ⟨i2, by omega, a2, fun j b1 b2 => ?_⟩
      rcases Nat.lt_or_ge j n with r | r
      · exact a3 j b1 r
      · have e : j = n := by omega
        subst e
        exact q
/-- the first greatest -/
theorem fb_best (f : Nat → Int) : ∀ {n : Nat}, 0 < n → ∃ i, i < n ∧ (∀ j, j < n → f j ≤ f i) ∧ ∀ j, j < i → f j < f i
  | 0, h => absurd h (Nat.lt_irrefl 0)
  | 1, _ => ⟨0, by omega, fun j hj => by have e : j = 0 := by omega
                                         subst e; exact Int.le_refl _, fun j hj => absurd hj (Nat.not_lt_zero j)⟩
  | n + 2, _ => by
    obtain ⟨i, h1, h2, h3⟩ := fb_best f (n := n + 1) (by omega)
    by_cases q : f i < f (n + 1)
    · refine ⟨n + 1, by omega, fun j hj => ?_, fun j hj => ?_⟩
      · rcases Nat.lt_or_ge j (n + 1) with r | r
        · have := h2 j r; omega
        · have e : j = n + 1 := by omega
          subst e; exact Int.le_refl _
      · have := h2 j hj; omega
    · refine ⟨i, by omega, fun j hj => ?_, h3⟩
      rcases Nat.lt_or_ge j (n + 1) with r | r
      · exact h2 j r
      · have e : j = n + 1 := by omega
        subst e; omega
theorem fb_best_one {f : Nat → Int} {n i j : Nat} (hi : i < n) (hi2 : ∀ k, k < n → f k ≤ f i) (hi3 : ∀ k, k < i → f k < f i) (hj : j < n) (hj2 : ∀ k, k < n → f k ≤ f j) (hj3 : ∀ k, k < j → f k < f j) : i = j := by
  rcases Nat.lt_trichotomy i j with q | q | q
  · have a := hj3 i q
    have b := hi2 j hj
    omega
  · exact q
  · have a := hi3 j q
    have b := hj2 i hi
    omega
/-- the first least -/
theorem fb_low (f : Nat → Int) {n : Nat} (h : 0 < n) : ∃ i, i < n ∧ (∀ j, j < n → f i ≤ f j) ∧ ∀ j, j < i → f i < f j := by
  obtain ⟨i, h1, h2, h3⟩ := fb_best (fun k => -f k) h
  exact ⟨i, h1, fun j hj => by have := h2 j hj; omega, fun j hj => by have := h3 j hj; omega⟩
/-! ===== signed ints as whole numbers, within bounds ===== -/
theorem fb_rng (x : Int32) : -2147483648 ≤ x.toInt ∧ x.toInt < 2147483648 := by
  have h1 := Int32.le_toInt x
  have h2 := Int32.toInt_lt x
  omega
theorem fb_bmod {z : Int} (h1 : -2147483648 ≤ z) (h2 : z < 2147483648) : z.bmod (2 ^ 32) = z := by
  rw [Int.bmod_eq_of_le (by omega) (by omega)]
theorem fb_addI {x y : Int32} (h1 : -2147483648 ≤ x.toInt + y.toInt) (h2 : x.toInt + y.toInt < 2147483648) : (x + y).toInt = x.toInt + y.toInt := by
  rw [Int32.toInt_add, fb_bmod h1 h2]
theorem fb_subI {x y : Int32} (h1 : -2147483648 ≤ x.toInt - y.toInt) (h2 : x.toInt - y.toInt < 2147483648) : (x - y).toInt = x.toInt - y.toInt := by
  rw [Int32.toInt_sub, fb_bmod h1 h2]
theorem fb_mulI {x y : Int32} (h1 : -2147483648 ≤ x.toInt * y.toInt) (h2 : x.toInt * y.toInt < 2147483648) : (x * y).toInt = x.toInt * y.toInt := by
  rw [Int32.toInt_mul, fb_bmod h1 h2]
theorem fb_negI {x : Int32} (h : x.toInt ≠ -2147483648) : (-x).toInt = -x.toInt := by
  have := fb_rng x
  rw [Int32.toInt_neg, fb_bmod (by omega) (by omega)]
theorem fb_ofI {z : Int} (h1 : -2147483648 ≤ z) (h2 : z < 2147483648) : (Int32.ofInt z).toInt = z := by
  rw [Int32.toInt_ofInt, fb_bmod h1 h2]
theorem fb_asI (x : Int32) : Int32.ofInt x.toInt = x := Int32.ofInt_toInt x
theorem fb_rngL (x : Int64) : -9223372036854775808 ≤ x.toInt ∧ x.toInt < 9223372036854775808 := by
  have h1 := Int64.le_toInt x
  have h2 := Int64.toInt_lt x
  omega
theorem fb_bmodL {z : Int} (h1 : -9223372036854775808 ≤ z) (h2 : z < 9223372036854775808) : z.bmod (2 ^ 64) = z := by
  rw [Int.bmod_eq_of_le (by omega) (by omega)]
theorem fb_addL {x y : Int64} (h1 : -9223372036854775808 ≤ x.toInt + y.toInt) (h2 : x.toInt + y.toInt < 9223372036854775808) : (x + y).toInt = x.toInt + y.toInt := by
  rw [Int64.toInt_add, fb_bmodL h1 h2]
theorem fb_subL {x y : Int64} (h1 : -9223372036854775808 ≤ x.toInt - y.toInt) (h2 : x.toInt - y.toInt < 9223372036854775808) : (x - y).toInt = x.toInt - y.toInt := by
  rw [Int64.toInt_sub, fb_bmodL h1 h2]
theorem fb_mulL {x y : Int64} (h1 : -9223372036854775808 ≤ x.toInt * y.toInt) (h2 : x.toInt * y.toInt < 9223372036854775808) : (x * y).toInt = x.toInt * y.toInt := by
  rw [Int64.toInt_mul, fb_bmodL h1 h2]
/-! ===== cuts of what is narrow already ===== -/
theorem fb_byte {x : Int32} (h1 : -128 ≤ x.toInt) (h2 : x.toInt < 128) : x.toInt8.toInt32 = x := by
  apply Int32.toInt_inj.1
  rw [Int8.toInt_toInt32, Int32.toInt_toInt8, Int.bmod_eq_of_le (by omega) (by omega)]
theorem fb_short {x : Int32} (h1 : -32768 ≤ x.toInt) (h2 : x.toInt < 32768) : x.toInt16.toInt32 = x := by
  apply Int32.toInt_inj.1
  rw [Int16.toInt_toInt32, Int32.toInt_toInt16, Int.bmod_eq_of_le (by omega) (by omega)]
theorem fb_byte_rng (x : Int32) : -128 ≤ x.toInt8.toInt32.toInt ∧ x.toInt8.toInt32.toInt < 128 := by
  rw [Int8.toInt_toInt32]
  have h1 := Int8.le_toInt x.toInt8
  have h2 := Int8.toInt_lt x.toInt8
  omega
theorem fb_short_rng (x : Int32) : -32768 ≤ x.toInt16.toInt32.toInt ∧ x.toInt16.toInt32.toInt < 32768 := by
  rw [Int16.toInt_toInt32]
  have h1 := Int16.le_toInt x.toInt16
  have h2 := Int16.toInt_lt x.toInt16
  omega
theorem fb_byte_twice (x : Int32) : x.toInt8.toInt32.toInt8.toInt32 = x.toInt8.toInt32 := fb_byte (fb_byte_rng x).1 (fb_byte_rng x).2
theorem fb_short_twice (x : Int32) : x.toInt16.toInt32.toInt16.toInt32 = x.toInt16.toInt32 := fb_short (fb_short_rng x).1 (fb_short_rng x).2
theorem fb_char {n : Nat} (h : n < 65536) : (nI n).toUInt32.toUInt16.toUInt32.toInt32 = nI n := by
  apply Int32.toBitVec_inj.1
  apply BitVec.eq_of_toNat_eq
  have e1 : (nI n).toBitVec.toNat = n := by
    show (BitVec.ofNat 32 n).toNat = n
    rw [BitVec.toNat_ofNat, Nat.mod_eq_of_lt (by omega)]
  have e2 : ((nI n).toUInt32.toUInt16.toUInt32).toNat = n := by
    rw [UInt16.toNat_toUInt32, UInt32.toNat_toUInt16]
    show (nI n).toBitVec.toNat % 2 ^ 16 = n
    rw [e1, Nat.mod_eq_of_lt (by omega)]
  rw [e1]
  exact e2
end
section
/-! the world: the class's state and the model's, as tuples -/
abbrev Ew : Type := Int32 × Int32 × Int32 × (Nat → Int32)
abbrev Pa : Type := Nat × Nat × (Nat → Int32) × (Nat → Int32) × (Nat → Int32) × (Nat → Nat → Int32) × (Nat → Ew)
abbrev Tp : Type := (Nat → Int32) × Nat × Int32 × Nat × Nat × Int32
abbrev Sh : Type := (Nat → Int64) × Nat × Int32
abbrev CS : Type := (Nat → Pa) × Tp × (Nat → Sh) × (Nat → Int32) × Int32
abbrev MS : Type := (Nat → Int32) × (Nat → Int32) × (Nat → Int32) × (Nat → Int32) × (Nat → Int32) × Int32 × (Nat → Int32) × Nat × Nat × Nat × Int32 × Int32 × (Nat → Int32) × (Nat → Int32) × (Nat → Int64) × (Nat → Int64)
abbrev WS : Type := CS × MS
abbrev gP (w : WS) (p : Nat) : Pa := w.1.1 p
abbrev gT (w : WS) : Tp := w.1.2.1
abbrev gS (w : WS) (s : Nat) : Sh := w.1.2.2.1 s
abbrev gF (w : WS) : Nat → Int32 := w.1.2.2.2.1
abbrev gH (w : WS) : Int32 := w.1.2.2.2.2
def sP (w : WS) (p : Nat) (P : Pa) : WS := ((va_up w.1.1 p P, w.1.2), w.2)
def sT (w : WS) (T : Tp) : WS := ((w.1.1, T, w.1.2.2), w.2)
def sS (w : WS) (s : Nat) (S : Sh) : WS := ((w.1.1, w.1.2.1, va_up w.1.2.2.1 s S, w.1.2.2.2), w.2)
def sF (w : WS) (f : Nat → Int32) : WS := ((w.1.1, w.1.2.1, w.1.2.2.1, f, w.1.2.2.2.2), w.2)
def sH (w : WS) (x : Int32) : WS := ((w.1.1, w.1.2.1, w.1.2.2.1, w.1.2.2.2.1, x), w.2)
def sM (w : WS) (M : MS) : WS := (w.1, M)
/-- the globals: classes, addresses, array classes, the first new address, the texts' addresses -/
abbrev Gl : Type := va_G × (Nat → Nat) × (ClassId × ClassId × ClassId × ClassId × ClassId × ClassId) × Nat × (Nat → Nat) × (Nat → Nat)
abbrev gD (G : Gl) : va_G := G.1
def ga (G : Gl) : Nat → Nat := G.2.1
abbrev gcI (G : Gl) : ClassId := G.2.2.1.1
abbrev gcB (G : Gl) : ClassId := G.2.2.1.2.1
abbrev gcJ (G : Gl) : ClassId := G.2.2.1.2.2.1
abbrev gcE (G : Gl) : ClassId := G.2.2.1.2.2.2.1
abbrev gcS (G : Gl) : ClassId := G.2.2.1.2.2.2.2.1
abbrev gcG (G : Gl) : ClassId := G.2.2.1.2.2.2.2.2
abbrev gLo (G : Gl) : Nat := G.2.2.2.1
abbrev gK (G : Gl) : Nat → Nat := G.2.2.2.2.1
abbrev gV (G : Gl) : Nat → Nat := G.2.2.2.2.2
def gA (G : Gl) : Nat → Prop := fun q => gLo G ≤ q
def gTy (G : Gl) : List (ClassId × FieldType) := [(gcI G, .int), (gcB G, .byte), (gcJ G, .long), (gcE G, .object "ShornYear$Ewe"), (gcS G, .object "ShornYear$Sheet"), (gcG G, .array .int)]
def ai (c : ClassId) (n : Nat) (f : Nat → Int32) : va_E := .inl (c, n, .inl f)
def aj (c : ClassId) (n : Nat) (f : Nat → Int64) : va_E := .inl (c, n, .inr (.inl f))
def aq (c : ClassId) (n : Nat) (f : Nat → Option Nat) : va_E := .inl (c, n, .inr (.inr (.inr (.inr f))))
def ob (k : Nat) (fs : List Value) : va_E := .inr (k, fs)
/-- the cells by their places -/
def cel (G : Gl) (w : WS) (k : Nat) : va_E :=
  if k = 0 then ob 4 [.ref (ga G 1), .ref (ga G 2), .ref (ga G 3), .ref (ga G 55), .ref (ga G 81), .ref (ga G 83), .ref (ga G 92), .int (gH w)] else
  if k < 4 then ob 1 [.int (nI (gP w (k - 1)).1), .int (nI (gP w (k - 1)).2.1), .ref (ga G (k + 3)), .ref (ga G (k + 6)), .ref (ga G (k + 9)), .ref (ga G (k + 12)), .ref (ga G (k + 15))] else
  if k < 7 then ai (gcI G) 12 (gP w (k - 4)).2.2.1 else
  if k < 10 then ai (gcI G) 12 (gP w (k - 7)).2.2.2.1 else
  if k < 13 then ai (gcI G) 12 (gP w (k - 10)).2.2.2.2.1 else
  if k < 16 then aq (gcE G) 8 (fun e => some (ga G (31 + (8 * (k - 13) + e)))) else
  if k < 19 then aq (gcG G) 4 (fun c => some (ga G (19 + (4 * (k - 16) + c)))) else
  if k < 31 then ai (gcI G) 12 ((gP w ((k - 19) / 4)).2.2.2.2.2.1 ((k - 19) % 4)) else
  if k < 56 then ob 0 [.int ((gP w ((k - 31) / 8)).2.2.2.2.2.2 ((k - 31) % 8)).1, .int ((gP w ((k - 31) / 8)).2.2.2.2.2.2 ((k - 31) % 8)).2.1, .int ((gP w ((k - 31) / 8)).2.2.2.2.2.2 ((k - 31) % 8)).2.2.1, .ref (ga G (k + 25))] else
  if k < 81 then ai (gcI G) 12 ((gP w ((k - 56) / 8)).2.2.2.2.2.2 ((k - 56) % 8)).2.2.2 else
  if k = 81 then ob 3 [.ref (ga G 82), .int (nI (gT w).2.1), .int (gT w).2.2.1, .int (nI (gT w).2.2.2.1), .int (nI (gT w).2.2.2.2.1), .int (gT w).2.2.2.2.2] else
  if k = 82 then ai (gcB G) 120 (gT w).1 else
  if k = 83 then aq (gcS G) 4 (fun s => some (ga G (84 + s))) else
  if k < 88 then ob 2 [.ref (ga G (k + 4)), .int (nI (gS w (k - 84)).2.1), .int (gS w (k - 84)).2.2] else
  if k < 92 then aj (gcJ G) 40 (gS w (k - 88)).1 else
  if k = 92 then ai (gcI G) 7 (gF w) else
  if k = 93 then ob 5 [.ref (ga G 94), .ref (ga G 95), .ref (ga G 96), .ref (ga G 97), .ref (ga G 98), .int w.2.2.2.2.2.2.1, .ref (ga G 99), .int (nI w.2.2.2.2.2.2.2.2.1), .int (nI w.2.2.2.2.2.2.2.2.2.1), .int (nI w.2.2.2.2.2.2.2.2.2.2.1), .int w.2.2.2.2.2.2.2.2.2.2.2.1, .int w.2.2.2.2.2.2.2.2.2.2.2.2.1, .ref (ga G 100), .ref (ga G 101), .ref (ga G 102), .ref (ga G 103)] else
  if k = 94 then ai (gcI G) 198 w.2.1 else
  if k = 95 then ai (gcI G) 198 w.2.2.1 else
  if k = 96 then ai (gcI G) 198 w.2.2.2.1 else
  if k = 97 then ai (gcI G) 198 w.2.2.2.2.1 else
  if k = 98 then ai (gcI G) 7 w.2.2.2.2.2.1 else
  if k = 99 then ai (gcI G) 120 w.2.2.2.2.2.2.2.1 else
  if k = 100 then ai (gcI G) 4 w.2.2.2.2.2.2.2.2.2.2.2.2.2.1 else
  if k = 101 then ai (gcI G) 4 w.2.2.2.2.2.2.2.2.2.2.2.2.2.2.1 else
  if k = 102 then aj (gcJ G) 160 w.2.2.2.2.2.2.2.2.2.2.2.2.2.2.2.1 else
  if k = 103 then aj (gcJ G) 40 w.2.2.2.2.2.2.2.2.2.2.2.2.2.2.2.2 else
  aq (gcE G) 0 (fun _ => none)
theorem cel_obj (G : Gl) (w : WS) : cel G w 0 = ob 4 [.ref (ga G 1), .ref (ga G 2), .ref (ga G 3), .ref (ga G 55), .ref (ga G 81), .ref (ga G 83), .ref (ga G 92), .int (gH w)] := rfl
theorem cel_par (G : Gl) (w : WS) {p : Nat} (hp : p < 3) : cel G w (1 + p) = ob 1 [.int (nI (gP w p).1), .int (nI (gP w p).2.1), .ref (ga G (4 + p)), .ref (ga G (7 + p)), .ref (ga G (10 + p)), .ref (ga G (13 + p)), .ref (ga G (16 + p))] := by
  unfold cel
  rw [if_neg (by omega), if_pos (by omega)]
  rw [show 1 + p - 1 = p by omega, show 1 + p + 3 = 4 + p by omega, show 1 + p + 6 = 7 + p by omega, show 1 + p + 9 = 10 + p by omega, show 1 + p + 12 = 13 + p by omega, show 1 + p + 15 = 16 + p by omega]
theorem cel_wea (G : Gl) (w : WS) {p : Nat} (hp : p < 3) : cel G w (4 + p) = ai (gcI G) 12 (gP w p).2.2.1 := by
  unfold cel
  rw [if_neg (by omega), if_neg (by omega), if_pos (by omega)]
  rw [show 4 + p - 4 = p by omega]
theorem cel_sto (G : Gl) (w : WS) {p : Nat} (hp : p < 3) : cel G w (7 + p) = ai (gcI G) 12 (gP w p).2.2.2.1 := by
  unfold cel
  rw [if_neg (by omega), if_neg (by omega), if_neg (by omega), if_pos (by omega)]
  rw [show 7 + p - 7 = p by omega]
theorem cel_rou (G : Gl) (w : WS) {p : Nat} (hp : p < 3) : cel G w (10 + p) = ai (gcI G) 12 (gP w p).2.2.2.2.1 := by
  unfold cel
  rw [if_neg (by omega), if_neg (by omega), if_neg (by omega), if_neg (by omega), if_pos (by omega)]
  rw [show 10 + p - 10 = p by omega]
theorem cel_ews (G : Gl) (w : WS) {p : Nat} (hp : p < 3) : cel G w (13 + p) = aq (gcE G) 8 (fun e => some (ga G (31 + (8 * p + e)))) := by
  unfold cel
  rw [if_neg (by omega), if_neg (by omega), if_neg (by omega), if_neg (by omega), if_neg (by omega), if_pos (by omega)]
  rw [show 13 + p - 13 = p by omega]
theorem cel_cos (G : Gl) (w : WS) {p : Nat} (hp : p < 3) : cel G w (16 + p) = aq (gcG G) 4 (fun c => some (ga G (19 + (4 * p + c)))) := by
  unfold cel
  rw [if_neg (by omega), if_neg (by omega), if_neg (by omega), if_neg (by omega), if_neg (by omega), if_neg (by omega), if_pos (by omega)]
  rw [show 16 + p - 16 = p by omega]
theorem cel_coa (G : Gl) (w : WS) {p c : Nat} (hp : p < 3) (hc : c < 4) : cel G w (19 + (4 * p + c)) = ai (gcI G) 12 ((gP w p).2.2.2.2.2.1 c) := by
  unfold cel
  rw [if_neg (by omega), if_neg (by omega), if_neg (by omega), if_neg (by omega), if_neg (by omega), if_neg (by omega), if_neg (by omega), if_pos (by omega)]
  rw [show (19 + (4 * p + c) - 19) / 4 = p by omega, show (19 + (4 * p + c) - 19) % 4 = c by omega]
theorem cel_ewe (G : Gl) (w : WS) {p e : Nat} (hp : 8 * p + e < 25) (he : e < 8) : cel G w (31 + (8 * p + e)) = ob 0 [.int ((gP w p).2.2.2.2.2.2 e).1, .int ((gP w p).2.2.2.2.2.2 e).2.1, .int ((gP w p).2.2.2.2.2.2 e).2.2.1, .ref (ga G (56 + (8 * p + e)))] := by
  unfold cel
  rw [if_neg (by omega), if_neg (by omega), if_neg (by omega), if_neg (by omega), if_neg (by omega), if_neg (by omega), if_neg (by omega), if_neg (by omega), if_pos (by omega)]
  rw [show (31 + (8 * p + e) - 31) / 8 = p by omega, show (31 + (8 * p + e) - 31) % 8 = e by omega, show 31 + (8 * p + e) + 25 = 56 + (8 * p + e) by omega]
theorem cel_fle (G : Gl) (w : WS) {p e : Nat} (hp : 8 * p + e < 25) (he : e < 8) : cel G w (56 + (8 * p + e)) = ai (gcI G) 12 ((gP w p).2.2.2.2.2.2 e).2.2.2 := by
  unfold cel
  rw [if_neg (by omega), if_neg (by omega), if_neg (by omega), if_neg (by omega), if_neg (by omega), if_neg (by omega), if_neg (by omega), if_neg (by omega), if_neg (by omega), if_pos (by omega)]
  rw [show (56 + (8 * p + e) - 56) / 8 = p by omega, show (56 + (8 * p + e) - 56) % 8 = e by omega]
theorem cel_tap (G : Gl) (w : WS) : cel G w 81 = ob 3 [.ref (ga G 82), .int (nI (gT w).2.1), .int (gT w).2.2.1, .int (nI (gT w).2.2.2.1), .int (nI (gT w).2.2.2.2.1), .int (gT w).2.2.2.2.2] := rfl
theorem cel_byt (G : Gl) (w : WS) : cel G w 82 = ai (gcB G) 120 (gT w).1 := rfl
theorem cel_shs (G : Gl) (w : WS) : cel G w 83 = aq (gcS G) 4 (fun s => some (ga G (84 + s))) := rfl
theorem cel_she (G : Gl) (w : WS) {s : Nat} (hs : s < 4) : cel G w (84 + s) = ob 2 [.ref (ga G (88 + s)), .int (nI (gS w s).2.1), .int (gS w s).2.2] := by
  unfold cel
  rw [if_neg (by omega), if_neg (by omega), if_neg (by omega), if_neg (by omega), if_neg (by omega), if_neg (by omega), if_neg (by omega), if_neg (by omega), if_neg (by omega), if_neg (by omega), if_neg (by omega), if_neg (by omega), if_neg (by omega), if_pos (by omega)]
  rw [show 84 + s - 84 = s by omega, show 84 + s + 4 = 88 + s by omega]
theorem cel_num (G : Gl) (w : WS) {s : Nat} (hs : s < 4) : cel G w (88 + s) = aj (gcJ G) 40 (gS w s).1 := by
  unfold cel
  rw [if_neg (by omega), if_neg (by omega), if_neg (by omega), if_neg (by omega), if_neg (by omega), if_neg (by omega), if_neg (by omega), if_neg (by omega), if_neg (by omega), if_neg (by omega), if_neg (by omega), if_neg (by omega), if_neg (by omega), if_neg (by omega), if_pos (by omega)]
  rw [show 88 + s - 88 = s by omega]
theorem cel_tol (G : Gl) (w : WS) : cel G w 92 = ai (gcI G) 7 (gF w) := rfl
theorem cel_mod (G : Gl) (w : WS) : cel G w 93 = ob 5 [.ref (ga G 94), .ref (ga G 95), .ref (ga G 96), .ref (ga G 97), .ref (ga G 98), .int w.2.2.2.2.2.2.1, .ref (ga G 99), .int (nI w.2.2.2.2.2.2.2.2.1), .int (nI w.2.2.2.2.2.2.2.2.2.1), .int (nI w.2.2.2.2.2.2.2.2.2.2.1), .int w.2.2.2.2.2.2.2.2.2.2.2.1, .int w.2.2.2.2.2.2.2.2.2.2.2.2.1, .ref (ga G 100), .ref (ga G 101), .ref (ga G 102), .ref (ga G 103)] := rfl
theorem cel_ms (G : Gl) (w : WS) : cel G w 94 = ai (gcI G) 198 w.2.1 := rfl
theorem cel_mk (G : Gl) (w : WS) : cel G w 95 = ai (gcI G) 198 w.2.2.1 := rfl
theorem cel_mo (G : Gl) (w : WS) : cel G w 96 = ai (gcI G) 198 w.2.2.2.1 := rfl
theorem cel_ma (G : Gl) (w : WS) : cel G w 97 = ai (gcI G) 198 w.2.2.2.2.1 := rfl
theorem cel_mf (G : Gl) (w : WS) : cel G w 98 = ai (gcI G) 7 w.2.2.2.2.2.1 := rfl
theorem cel_mt (G : Gl) (w : WS) : cel G w 99 = ai (gcI G) 120 w.2.2.2.2.2.2.2.1 := rfl
theorem cel_mb (G : Gl) (w : WS) : cel G w 100 = ai (gcI G) 4 w.2.2.2.2.2.2.2.2.2.2.2.2.2.1 := rfl
theorem cel_mz (G : Gl) (w : WS) : cel G w 101 = ai (gcI G) 4 w.2.2.2.2.2.2.2.2.2.2.2.2.2.2.1 := rfl
theorem cel_mn (G : Gl) (w : WS) : cel G w 102 = aj (gcJ G) 160 w.2.2.2.2.2.2.2.2.2.2.2.2.2.2.2.1 := rfl
theorem cel_mv (G : Gl) (w : WS) : cel G w 103 = aj (gcJ G) 40 w.2.2.2.2.2.2.2.2.2.2.2.2.2.2.2.2 := rfl
/-- the world's list -/
def wl (G : Gl) (w : WS) : va_W := (List.range 104).map (fun k => (ga G k, cel G w k))
theorem wl_at {G : Gl} {w : WS} {k : Nat} {x : va_E} (hk : k < 104) (h : cel G w k = x) : (wl G w)[k]? = some (ga G k, x) := by
  unfold wl
  rw [List.getElem?_map, List.getElem?_range hk, ← h]
  rfl
theorem wl_len (G : Gl) (w : WS) : (wl G w).length = 104 := by simp [wl]
theorem wl_inv {G : Gl} {w : WS} {k : Nat} {q : Nat × va_E} (h : (wl G w)[k]? = some q) : k < 104 ∧ q = (ga G k, cel G w k) := by
  have hk : k < 104 := by
    have := (List.getElem?_eq_some_iff.mp h).1
    rw [wl_len] at this
    exact this
  refine ⟨hk, ?_⟩
  rw [wl_at hk rfl] at h
  exact (Option.some.inj h).symm
theorem wl_set {G : Gl} {w w' : WS} {k : Nat} {x : va_E} (hk : k < 104) (h : ∀ j, j < 104 → cel G w' j = if j = k then x else cel G w j) : (wl G w).set k (ga G k, x) = wl G w' := by
  apply List.ext_getElem?
  intro j
  by_cases hj : j < 104
  · have e1 : (wl G w')[j]? = some (ga G j, cel G w' j) := wl_at hj rfl
    by_cases hjk : j = k
    · subst hjk
      rw [List.getElem?_set_self (by rw [wl_len]; exact hk), e1, h j hj, if_pos rfl]
    · rw [List.getElem?_set_ne (fun e => hjk e.symm), wl_at hj rfl, e1, h j hj, if_neg hjk]
  · rw [List.getElem?_eq_none (by rw [List.length_set, wl_len]; omega), List.getElem?_eq_none (by rw [wl_len]; omega)]
def Wd (G : Gl) (w : WS) (H : Heap) : Prop := va_P (gD G) vwCl (wl G w) H
def GI (G : Gl) : Prop := (∀ i j, i < 104 → j < 104 → ga G i = ga G j → i = j) ∧ ∀ k, k < 104 → gLo G ≤ ga G k
theorem GI.D {G : Gl} (h : GI G) (w : WS) : va_D (gA G) (wl G w) := by
  refine ⟨fun i j p q hi hj e => ?_, fun k q hk => ?_⟩
  · obtain ⟨h1, rfl⟩ := wl_inv hi
    obtain ⟨h2, rfl⟩ := wl_inv hj
    exact h.1 i j h1 h2 e
  · obtain ⟨h1, rfl⟩ := wl_inv hk
    exact h.2 k h1
def Nst (U : State) : Prop := va_Nw (.methodLinkNest RX0 31 yX4_grows RX4) U ∧ va_Nw (.methodLinkNest RX0 35 yX4_loses RX4) U ∧ va_Nw (.methodLinkNest RX0 43 yX4_calms RX4) U ∧ va_Nw (.methodLinkNest RX1 86 yX4_burrs RX4) U
/-- the texts: ewe ram lamb wether black pet cold mild cut store fright -/
def sLen : List Nat := [3, 3, 4, 6, 5, 3, 4, 4, 3, 5, 6]
def sByt : List (List Int32) := [[101, 119, 101], [114, 97, 109], [108, 97, 109, 98], [119, 101, 116, 104, 101, 114], [98, 108, 97, 99, 107], [112, 101, 116], [99, 111, 108, 100], [109, 105, 108, 100], [99, 117, 116], [115, 116, 111, 114, 101], [102, 114, 105, 103, 104, 116]]
def sIx : List Nat := [79, 69, 71, 73, 75, 77, 88, 93, 95, 100, 111]
def sTx : List String := ["ewe", "ram", "lamb", "wether", "black", "pet", "cold", "mild", "cut", "store", "fright"]
def Sx (G : Gl) (U : State) : Prop := vk_S 11 sLen sByt (gK G) (gV G) (gA G) U U.heap ∧ (∀ i, i < 11 → vk_R RX3 (sIx.getD i 0) (sTx.getD i "") (gK G i) U) ∧ va_Z "java/lang/String" "COMPACT_STRINGS" "Z" (.int 1) (gA G) U U.heap ∧ va_Zq "jdk/internal/util/Preconditions" "SIOOBE_FORMATTER" "Ljava/util/function/BiFunction;" (gA G) U U.heap
def Kd (G : Gl) (U : State) : Prop := va_K (gD G) vwCl (gTy G) U ∧ Nst U ∧ GI G ∧ Sx G U
theorem Kd.next {G : Gl} {s U : State} {locs : List Loc} (h : Kd G s) (hW : s.WarmedH U.vm) (hS : va_S (gA G) s.heap U.heap locs) : Kd G U := by
  obtain ⟨h1, ⟨n1, n2, n3, n4⟩, h3, s1, s2, s3, s4⟩ := h
  exact ⟨va_K.moved hW.alike h1, ⟨n1.warmM hW, n2.warmM hW, n3.warmM hW, n4.warmM hW⟩, h3, (s1.moved hW.alike).kept hS.2.1, fun i hi => (s2 i hi).warm hW, (s3.moved hW.alike).kept hS.2.1, (s4.moved hW.alike).kept hS.2.1⟩
theorem Kd.call {G : Gl} {U : State} (h : Kd G U) (g : JFrame) (mk : MethodId) (a : Array Value) : Kd G (U.calling g mk a) := by
  obtain ⟨h1, ⟨n1, n2, n3, n4⟩, h3, s1, s2, s3, s4⟩ := h
  have hA : U.vm.Alike (U.calling g mk a).vm := Vm.Alike.refl U.vm
  exact ⟨va_K.moved hA h1, ⟨va_Nw.same rfl rfl n1, va_Nw.same rfl rfl n2, va_Nw.same rfl rfl n3, va_Nw.same rfl rfl n4⟩, h3, s1.moved hA, fun i hi => (s2 i hi).same rfl, s3.moved hA, s4.moved hA⟩
/-- what a method does, as a function: it answers ov, the world becomes wF -/
def Qo (G : Gl) (ov : Option Value) (wF : WS) : Array Value → State → Outcome → State → Prop := fun _ st oc t => (oc = .returned ov ∧ Wd G wF t.heap) ∧ va_F (gA G) st t
def Ct (l : Launch) (G : Gl) (y : MethodName) (cc : ByteArray) (nL : Nat) (ret : Option FieldType) (f n : Nat) (avs : List Value) (w : WS) (ov : Option Value) (wF : WS) : Prop :=
  Met l y (.code y cc nL ret :: BIG) (k2_rm f n) (va_Pc avs (fun U => Wd G w U.heap ∧ Kd G U)) (Qo G ov wF) 0 0 (gA G)
abbrev VX : Type := Program × Env × State × MethodId × Array Value × List Frame × Method × Code
def OKX (X : VX) (cc : ByteArray) (nL : Nat) (own : String) (ret : Option FieldType) (G : Gl) : Prop := match X with
  | (p, e, s, m, args, below, meth, c) => p.tables.exec = Jvm.exec ∧ c.code = cc ∧ c.maxLocals = nL ∧ s.vm.findClass own = some m.cls ∧ (∀ w ∈ BIG, w.before args s = true) ∧ Kd G s ∧ meth.locks = false ∧ meth.sig.returnType = ret
/-- the machine at pc, with these locals and this stack, in this world, comes to the end that the contract names -/
def V (l : Launch) (X : VX) (f n : Nat) (cc : ByteArray) (nL : Nat) (own : String) (ret : Option FieldType) (G : Gl) (ov : Option Value) (wF : WS) (w : WS) (pc : Nat) (ls : List (Nat × Value)) (st : List Value) : Prop := match X with
  | (p, e, s, m, args, below, meth, c) => OKX (p, e, s, m, args, below, meth, c) cc nL own ret G → ∀ (H : Heap) (locs : List Loc) (la : Array Slot), Wd G w H → va_S (gA G) s.heap H locs → lv_has la nL ls → W p l e (k2_rm f n) s m args below meth c H locs 0 0 (MQ below (Qo G ov wF) args s 0 0 (gA G)) (F0 m pc la st)
theorem Ct.of {l : Launch} {G : Gl} {y : MethodName} {cc : ByteArray} {nL : Nat} {ret : Option FieldType} {f n : Nat} {avs : List Value} {w : WS} {ov : Option Value} {wF : WS} {own : String} (hy : plainName y.cls = true) (ho : y.cls = own) (hlen : (lg_sl avs).length ≤ nL) {ls : List (Nat × Value)} (hls : lv_args 0 avs = ls) (h : ∀ X : VX, V l X f n cc nL own ret G ov wF w 0 ls []) : Ct l G y cc nL ret f n avs w ov wF := by
  refine Met.ofW (cc := cc) (maxL := nL) (ret := ret) hy rfl ?_
  intro p e s m args below meth c s₁ B hml hv
  obtain ⟨rfl, hw, hK⟩ := hv
  have hts := atoms_spec (ws := .code y cc nL ret :: BIG) B.pre
  have hown : s.vm.findClass y.cls = some m.cls := findClass_of_methodNamed B.named
  rw [ho] at hown
  rw [lg_entry_eq]
  have hl := lv_entry avs (n := nL) hlen
  rw [hls] at hl
  exact h (p, e, s, m, avs.toArray, below, meth, c) ⟨B.exec, B.bytes, hml, hown, fun w hw => hts w (List.mem_cons_of_mem _ hw), hK, B.notSynchronized, B.returns⟩ s.heap [] _ hw va_S.rf hl
end
section
/-- a truth as the machine has it -/
def b2 (b : Bool) : Int32 := if b then 1 else 0
theorem b2_t {b : Bool} (h : b = true) : b2 b = 1 := by rw [h]; rfl
theorem b2_f {b : Bool} (h : b = false) : b2 b = 0 := by rw [h]; rfl
theorem b2_0 {b : Bool} : b2 b = 0 ↔ b = false := by cases b <;> decide
theorem b2_n {b : Bool} : ¬ b2 b = 0 ↔ b = true := by cases b <;> decide
/-- a number that lies between two -/
def inb (lo hi : Int) (x : Int32) : Bool := decide (lo ≤ x.toInt ∧ x.toInt ≤ hi)
theorem inb_t {lo hi : Int} {x : Int32} : inb lo hi x = true ↔ lo ≤ x.toInt ∧ x.toInt ≤ hi := by unfold inb; exact decide_eq_true_iff
theorem inb_f {lo hi : Int} {x : Int32} : inb lo hi x = false ↔ ¬ (lo ≤ x.toInt ∧ x.toInt ≤ hi) := by unfold inb; exact decide_eq_false_iff_not
theorem inb_ix {lo hi : Nat} {x : Int32} (h : inb (lo : Int) (hi : Int) x = true) : ∃ j : Nat, lo ≤ j ∧ j ≤ hi ∧ x = nI j := by
  obtain ⟨h1, h2⟩ := inb_t.mp h
  obtain ⟨j, hj, rfl⟩ := nI_of (x := x) (fun hlt => by
    have := (Int32.lt_iff_toInt_lt).mp hlt
    have e0 : (0 : Int32).toInt = 0 := rfl
    omega)
  rw [nI_toInt hj] at h1 h2
  exact ⟨j, by omega, by omega, rfl⟩
section VROWS
variable {l : Launch} {X : VX} {f n : Nat} {cc : ByteArray} {nL : Nat} {own : String} {ret : Option FieldType} {G : Gl} {ov : Option Value} {wF w : WS} {pc : Nat} {ls ls2 : List (Nat × Value)} {st : List Value}
theorem v_iadd {x y : Int32} (hd : decode cc pc = .ok (.iadd, 1))  (q : Nat) (hq : pc + 1 = q) (hk : V l X f n cc nL own ret G ov wF w q ls (.int (x + y) :: st)) : V l X f n cc nL own ret G ov wF w pc ls (.int y :: .int x :: st) := by
  obtain ⟨p, e, s, m, args, below, meth, c⟩ := X
  intro hX H locs la hw hS hl
  subst hq
  exact lv_iadd hX.1 hX.2.1 hd  (hk hX H locs la hw hS hl)
theorem v_isub {x y : Int32} (hd : decode cc pc = .ok (.isub, 1))  (q : Nat) (hq : pc + 1 = q) (hk : V l X f n cc nL own ret G ov wF w q ls (.int (x - y) :: st)) : V l X f n cc nL own ret G ov wF w pc ls (.int y :: .int x :: st) := by
  obtain ⟨p, e, s, m, args, below, meth, c⟩ := X
  intro hX H locs la hw hS hl
  subst hq
  exact lv_isub hX.1 hX.2.1 hd  (hk hX H locs la hw hS hl)
theorem v_imul {x y : Int32} (hd : decode cc pc = .ok (.imul, 1))  (q : Nat) (hq : pc + 1 = q) (hk : V l X f n cc nL own ret G ov wF w q ls (.int (x * y) :: st)) : V l X f n cc nL own ret G ov wF w pc ls (.int y :: .int x :: st) := by
  obtain ⟨p, e, s, m, args, below, meth, c⟩ := X
  intro hX H locs la hw hS hl
  subst hq
  exact lv_imul hX.1 hX.2.1 hd  (hk hX H locs la hw hS hl)
theorem v_iand {x y : Int32} (hd : decode cc pc = .ok (.iand, 1))  (q : Nat) (hq : pc + 1 = q) (hk : V l X f n cc nL own ret G ov wF w q ls (.int (x &&& y) :: st)) : V l X f n cc nL own ret G ov wF w pc ls (.int y :: .int x :: st) := by
  obtain ⟨p, e, s, m, args, below, meth, c⟩ := X
  intro hX H locs la hw hS hl
  subst hq
  exact lv_iand hX.1 hX.2.1 hd  (hk hX H locs la hw hS hl)
theorem v_ior {x y : Int32} (hd : decode cc pc = .ok (.ior, 1))  (q : Nat) (hq : pc + 1 = q) (hk : V l X f n cc nL own ret G ov wF w q ls (.int (x ||| y) :: st)) : V l X f n cc nL own ret G ov wF w pc ls (.int y :: .int x :: st) := by
  obtain ⟨p, e, s, m, args, below, meth, c⟩ := X
  intro hX H locs la hw hS hl
  subst hq
  exact lv_ior hX.1 hX.2.1 hd  (hk hX H locs la hw hS hl)
theorem v_ishl {x y : Int32} (hd : decode cc pc = .ok (.ishl, 1))  (q : Nat) (hq : pc + 1 = q) (hk : V l X f n cc nL own ret G ov wF w q ls (.int (x <<< (y &&& 31)) :: st)) : V l X f n cc nL own ret G ov wF w pc ls (.int y :: .int x :: st) := by
  obtain ⟨p, e, s, m, args, below, meth, c⟩ := X
  intro hX H locs la hw hS hl
  subst hq
  exact lv_ishl hX.1 hX.2.1 hd  (hk hX H locs la hw hS hl)
theorem v_ishr {x y : Int32} (hd : decode cc pc = .ok (.ishr, 1))  (q : Nat) (hq : pc + 1 = q) (hk : V l X f n cc nL own ret G ov wF w q ls (.int (x >>> (y &&& 31)) :: st)) : V l X f n cc nL own ret G ov wF w pc ls (.int y :: .int x :: st) := by
  obtain ⟨p, e, s, m, args, below, meth, c⟩ := X
  intro hX H locs la hw hS hl
  subst hq
  exact lv_ishr hX.1 hX.2.1 hd  (hk hX H locs la hw hS hl)
theorem v_ladd {x y : Int64} (hd : decode cc pc = .ok (.ladd, 1))  (q : Nat) (hq : pc + 1 = q) (hk : V l X f n cc nL own ret G ov wF w q ls (.long (x + y) :: st)) : V l X f n cc nL own ret G ov wF w pc ls (.long y :: .long x :: st) := by
  obtain ⟨p, e, s, m, args, below, meth, c⟩ := X
  intro hX H locs la hw hS hl
  subst hq
  exact lv_ladd hX.1 hX.2.1 hd  (hk hX H locs la hw hS hl)
theorem v_lmul {x y : Int64} (hd : decode cc pc = .ok (.lmul, 1))  (q : Nat) (hq : pc + 1 = q) (hk : V l X f n cc nL own ret G ov wF w q ls (.long (x * y) :: st)) : V l X f n cc nL own ret G ov wF w pc ls (.long y :: .long x :: st) := by
  obtain ⟨p, e, s, m, args, below, meth, c⟩ := X
  intro hX H locs la hw hS hl
  subst hq
  exact lv_lmul hX.1 hX.2.1 hd  (hk hX H locs la hw hS hl)
theorem v_land {x y : Int64} (hd : decode cc pc = .ok (.land, 1))  (q : Nat) (hq : pc + 1 = q) (hk : V l X f n cc nL own ret G ov wF w q ls (.long (x &&& y) :: st)) : V l X f n cc nL own ret G ov wF w pc ls (.long y :: .long x :: st) := by
  obtain ⟨p, e, s, m, args, below, meth, c⟩ := X
  intro hX H locs la hw hS hl
  subst hq
  exact lv_land hX.1 hX.2.1 hd  (hk hX H locs la hw hS hl)
theorem v_lor {x y : Int64} (hd : decode cc pc = .ok (.lor, 1))  (q : Nat) (hq : pc + 1 = q) (hk : V l X f n cc nL own ret G ov wF w q ls (.long (x ||| y) :: st)) : V l X f n cc nL own ret G ov wF w pc ls (.long y :: .long x :: st) := by
  obtain ⟨p, e, s, m, args, below, meth, c⟩ := X
  intro hX H locs la hw hS hl
  subst hq
  exact lv_lor hX.1 hX.2.1 hd  (hk hX H locs la hw hS hl)
theorem v_idiv {x y : Int32} (hd : decode cc pc = .ok (.idiv, 1)) (hne : ¬ y = 0) (q : Nat) (hq : pc + 1 = q) (hk : V l X f n cc nL own ret G ov wF w q ls (.int (x / y) :: st)) : V l X f n cc nL own ret G ov wF w pc ls (.int y :: .int x :: st) := by
  obtain ⟨p, e, s, m, args, below, meth, c⟩ := X
  intro hX H locs la hw hS hl
  subst hq
  exact lv_idiv hX.1 hX.2.1 hd hne (hk hX H locs la hw hS hl)
theorem v_irem {x y : Int32} (hd : decode cc pc = .ok (.irem, 1)) (hne : ¬ y = 0) (q : Nat) (hq : pc + 1 = q) (hk : V l X f n cc nL own ret G ov wF w q ls (.int (x - x / y * y) :: st)) : V l X f n cc nL own ret G ov wF w pc ls (.int y :: .int x :: st) := by
  obtain ⟨p, e, s, m, args, below, meth, c⟩ := X
  intro hX H locs la hw hS hl
  subst hq
  exact lv_irem hX.1 hX.2.1 hd hne (hk hX H locs la hw hS hl)
theorem v_ineg {x : Int32} (hd : decode cc pc = .ok (.ineg, 1))  (q : Nat) (hq : pc + 1 = q) (hk : V l X f n cc nL own ret G ov wF w q ls (.int (-x) :: st)) : V l X f n cc nL own ret G ov wF w pc ls (.int x :: st) := by
  obtain ⟨p, e, s, m, args, below, meth, c⟩ := X
  intro hX H locs la hw hS hl
  subst hq
  exact lv_ineg hX.1 hX.2.1 hd  (hk hX H locs la hw hS hl)
theorem v_i2l {x : Int32} (hd : decode cc pc = .ok (.i2l, 1))  (q : Nat) (hq : pc + 1 = q) (hk : V l X f n cc nL own ret G ov wF w q ls (.long x.toInt64 :: st)) : V l X f n cc nL own ret G ov wF w pc ls (.int x :: st) := by
  obtain ⟨p, e, s, m, args, below, meth, c⟩ := X
  intro hX H locs la hw hS hl
  subst hq
  exact lv_i2l hX.1 hX.2.1 hd rfl (hk hX H locs la hw hS hl)
theorem v_l2i {x : Int64} (hd : decode cc pc = .ok (.l2i, 1))  (q : Nat) (hq : pc + 1 = q) (hk : V l X f n cc nL own ret G ov wF w q ls (.int x.toInt32 :: st)) : V l X f n cc nL own ret G ov wF w pc ls (.long x :: st) := by
  obtain ⟨p, e, s, m, args, below, meth, c⟩ := X
  intro hX H locs la hw hS hl
  subst hq
  exact lv_l2i hX.1 hX.2.1 hd rfl (hk hX H locs la hw hS hl)
theorem v_i2b {x : Int32} (hd : decode cc pc = .ok (.i2b, 1))  (q : Nat) (hq : pc + 1 = q) (hk : V l X f n cc nL own ret G ov wF w q ls (.int x.toInt8.toInt32 :: st)) : V l X f n cc nL own ret G ov wF w pc ls (.int x :: st) := by
  obtain ⟨p, e, s, m, args, below, meth, c⟩ := X
  intro hX H locs la hw hS hl
  subst hq
  exact lv_i2b hX.1 hX.2.1 hd rfl (hk hX H locs la hw hS hl)
theorem v_i2s {x : Int32} (hd : decode cc pc = .ok (.i2s, 1))  (q : Nat) (hq : pc + 1 = q) (hk : V l X f n cc nL own ret G ov wF w q ls (.int x.toInt16.toInt32 :: st)) : V l X f n cc nL own ret G ov wF w pc ls (.int x :: st) := by
  obtain ⟨p, e, s, m, args, below, meth, c⟩ := X
  intro hX H locs la hw hS hl
  subst hq
  exact lv_i2s hX.1 hX.2.1 hd rfl (hk hX H locs la hw hS hl)
theorem v_i2c {x : Int32} (hd : decode cc pc = .ok (.i2c, 1))  (q : Nat) (hq : pc + 1 = q) (hk : V l X f n cc nL own ret G ov wF w q ls (.int (x.toUInt32 % 65536).toInt32 :: st)) : V l X f n cc nL own ret G ov wF w pc ls (.int x :: st) := by
  obtain ⟨p, e, s, m, args, below, meth, c⟩ := X
  intro hX H locs la hw hS hl
  subst hq
  exact lv_i2c hX.1 hX.2.1 hd rfl (hk hX H locs la hw hS hl)
theorem v_lshl {x : Int64} {y : Int32} (hd : decode cc pc = .ok (.lshl, 1))  (q : Nat) (hq : pc + 1 = q) (hk : V l X f n cc nL own ret G ov wF w q ls (.long (x <<< (y.toInt64 &&& 63)) :: st)) : V l X f n cc nL own ret G ov wF w pc ls (.int y :: .long x :: st) := by
  obtain ⟨p, e, s, m, args, below, meth, c⟩ := X
  intro hX H locs la hw hS hl
  subst hq
  exact lv_lshl hX.1 hX.2.1 hd rfl (hk hX H locs la hw hS hl)
theorem v_lcmp {x y : Int64} (hd : decode cc pc = .ok (.lcmp, 1))  (q : Nat) (hq : pc + 1 = q) (hk : V l X f n cc nL own ret G ov wF w q ls (.int (lg_cmp x y) :: st)) : V l X f n cc nL own ret G ov wF w pc ls (.long y :: .long x :: st) := by
  obtain ⟨p, e, s, m, args, below, meth, c⟩ := X
  intro hX H locs la hw hS hl
  subst hq
  exact W.lcmp hX.1 hX.2.1 hd  (hk hX H locs la hw hS hl)
theorem v_dup {a : Value} (hd : decode cc pc = .ok (.dup, 1)) (ha : a.category = 1) (q : Nat) (hq : pc + 1 = q) (hk : V l X f n cc nL own ret G ov wF w q ls (a :: a :: st)) : V l X f n cc nL own ret G ov wF w pc ls (a :: st) := by
  obtain ⟨p, e, s, m, args, below, meth, c⟩ := X
  intro hX H locs la hw hS hl
  subst hq
  exact lv_dup hX.1 hX.2.1 hd ha (hk hX H locs la hw hS hl)
theorem v_dup2 {a b : Value} (hd : decode cc pc = .ok (.dup2, 1)) (ha : a.category = 1) (hb : b.category = 1) (q : Nat) (hq : pc + 1 = q) (hk : V l X f n cc nL own ret G ov wF w q ls (a :: b :: a :: b :: st)) : V l X f n cc nL own ret G ov wF w pc ls (a :: b :: st) := by
  obtain ⟨p, e, s, m, args, below, meth, c⟩ := X
  intro hX H locs la hw hS hl
  subst hq
  exact lv_dup2_11 hX.1 hX.2.1 hd ha hb (hk hX H locs la hw hS hl)
theorem v_pop {a : Value} (hd : decode cc pc = .ok (.pop, 1)) (ha : a.category = 1) (q : Nat) (hq : pc + 1 = q) (hk : V l X f n cc nL own ret G ov wF w q ls (st)) : V l X f n cc nL own ret G ov wF w pc ls (a :: st) := by
  obtain ⟨p, e, s, m, args, below, meth, c⟩ := X
  intro hX H locs la hw hS hl
  subst hq
  exact lv_pop hX.1 hX.2.1 hd ha (hk hX H locs la hw hS hl)
theorem v_iconst {k : Int} (hd : decode cc pc = .ok (.iconst k, 1)) (v : Int32) (hv : Int32.ofInt k = v) (q : Nat) (hq : pc + 1 = q) (hk : V l X f n cc nL own ret G ov wF w q ls (.int v :: st)) : V l X f n cc nL own ret G ov wF w pc ls (st) := by
  obtain ⟨p, e, s, m, args, below, meth, c⟩ := X
  intro hX H locs la hw hS hl
  subst hq
  exact lv_iconst hX.1 hX.2.1 hd hv (hk hX H locs la hw hS hl)
theorem v_bipush {k : Int} (hd : decode cc pc = .ok (.bipush k, 2)) (v : Int32) (hv : (Int8.ofInt k).toInt32 = v) (q : Nat) (hq : pc + 2 = q) (hk : V l X f n cc nL own ret G ov wF w q ls (.int v :: st)) : V l X f n cc nL own ret G ov wF w pc ls (st) := by
  obtain ⟨p, e, s, m, args, below, meth, c⟩ := X
  intro hX H locs la hw hS hl
  subst hq
  exact lv_bipush hX.1 hX.2.1 hd hv (hk hX H locs la hw hS hl)
theorem v_sipush {k : Int} (hd : decode cc pc = .ok (.sipush k, 3)) (v : Int32) (hv : (Int16.ofInt k).toInt32 = v) (q : Nat) (hq : pc + 3 = q) (hk : V l X f n cc nL own ret G ov wF w q ls (.int v :: st)) : V l X f n cc nL own ret G ov wF w pc ls (st) := by
  obtain ⟨p, e, s, m, args, below, meth, c⟩ := X
  intro hX H locs la hw hS hl
  subst hq
  exact lv_sipush hX.1 hX.2.1 hd hv (hk hX H locs la hw hS hl)
theorem v_lconst {k : Fin 2} (hd : decode cc pc = .ok (.lconst k, 1)) (v : Int64) (hv : Int64.ofNat (k : Nat) = v) (q : Nat) (hq : pc + 1 = q) (hk : V l X f n cc nL own ret G ov wF w q ls (.long v :: st)) : V l X f n cc nL own ret G ov wF w pc ls (st) := by
  obtain ⟨p, e, s, m, args, below, meth, c⟩ := X
  intro hX H locs la hw hS hl
  subst hq
  exact lv_lconst hX.1 hX.2.1 hd hv (hk hX H locs la hw hS hl)
theorem v_ldc {k : Nat} (hd : decode cc pc = .ok (.ldc k, 2)) (v : Int32) (hc : Cond.constant own k v ∈ BIG) (q : Nat) (hq : pc + 2 = q) (hk : V l X f n cc nL own ret G ov wF w q ls (.int v :: st)) : V l X f n cc nL own ret G ov wF w pc ls (st) := by
  obtain ⟨p, e, s, m, args, below, meth, c⟩ := X
  intro hX H locs la hw hS hl
  subst hq
  exact lv_ldc hX.1 hX.2.1 hX.2.2.2.1 (hX.2.2.2.2.1 _ hc) hd (hk hX H locs la hw hS hl)
theorem v_ldcw {k : Nat} (hd : decode cc pc = .ok (.ldc_w k, 3)) (v : Int32) (hc : Cond.constant own k v ∈ BIG) (q : Nat) (hq : pc + 3 = q) (hk : V l X f n cc nL own ret G ov wF w q ls (.int v :: st)) : V l X f n cc nL own ret G ov wF w pc ls (st) := by
  obtain ⟨p, e, s, m, args, below, meth, c⟩ := X
  intro hX H locs la hw hS hl
  subst hq
  exact lv_ldcw hX.1 hX.2.1 hX.2.2.2.1 (hX.2.2.2.2.1 _ hc) hd (hk hX H locs la hw hS hl)
theorem v_ldc2 {k : Nat} (hd : decode cc pc = .ok (.ldc2_w k, 3)) (v : Int64) (hc : Cond.constantLong own k v ∈ BIG) (q : Nat) (hq : pc + 3 = q) (hk : V l X f n cc nL own ret G ov wF w q ls (.long v :: st)) : V l X f n cc nL own ret G ov wF w pc ls (st) := by
  obtain ⟨p, e, s, m, args, below, meth, c⟩ := X
  intro hX H locs la hw hS hl
  subst hq
  exact lv_ldc2 hX.1 hX.2.1 hX.2.2.2.1 (hX.2.2.2.2.1 _ hc) hd (hk hX H locs la hw hS hl)
theorem v_iload_n {k : Fin 4} {x : Int32} (hd : decode cc pc = .ok (.iload_n k, 1)) (i : Nat) (hi : ls[i]? = some (k.val, .int x)) (q : Nat) (hq : pc + 1 = q) (hk : V l X f n cc nL own ret G ov wF w q ls (.int x :: st)) : V l X f n cc nL own ret G ov wF w pc ls (st) := by
  obtain ⟨p, e, s, m, args, below, meth, c⟩ := X
  intro hX H locs la hw hS hl
  subst hq
  exact lv_iload_n hX.1 hX.2.1 hd rfl (lv_at hl i hi) (hk hX H locs la hw hS hl)
theorem v_iload {k : Nat} {x : Int32} (hd : decode cc pc = .ok (.iload k, 2)) (i : Nat) (hi : ls[i]? = some (k, .int x)) (q : Nat) (hq : pc + 2 = q) (hk : V l X f n cc nL own ret G ov wF w q ls (.int x :: st)) : V l X f n cc nL own ret G ov wF w pc ls (st) := by
  obtain ⟨p, e, s, m, args, below, meth, c⟩ := X
  intro hX H locs la hw hS hl
  subst hq
  exact lv_iload hX.1 hX.2.1 hd (lv_at hl i hi) (hk hX H locs la hw hS hl)
theorem v_lload_n {k : Fin 4} {x : Int64} (hd : decode cc pc = .ok (.lload_n k, 1)) (i : Nat) (hi : ls[i]? = some (k.val, .long x)) (q : Nat) (hq : pc + 1 = q) (hk : V l X f n cc nL own ret G ov wF w q ls (.long x :: st)) : V l X f n cc nL own ret G ov wF w pc ls (st) := by
  obtain ⟨p, e, s, m, args, below, meth, c⟩ := X
  intro hX H locs la hw hS hl
  subst hq
  exact lv_lload_n hX.1 hX.2.1 hd rfl (lv_at hl i hi) (hk hX H locs la hw hS hl)
theorem v_lload {k : Nat} {x : Int64} (hd : decode cc pc = .ok (.lload k, 2)) (i : Nat) (hi : ls[i]? = some (k, .long x)) (q : Nat) (hq : pc + 2 = q) (hk : V l X f n cc nL own ret G ov wF w q ls (.long x :: st)) : V l X f n cc nL own ret G ov wF w pc ls (st) := by
  obtain ⟨p, e, s, m, args, below, meth, c⟩ := X
  intro hX H locs la hw hS hl
  subst hq
  exact lv_lload hX.1 hX.2.1 hd (lv_at hl i hi) (hk hX H locs la hw hS hl)
theorem v_aload_n {k : Fin 4} {x : Nat} (hd : decode cc pc = .ok (.aload_n k, 1)) (i : Nat) (hi : ls[i]? = some (k.val, .ref x)) (q : Nat) (hq : pc + 1 = q) (hk : V l X f n cc nL own ret G ov wF w q ls (.ref x :: st)) : V l X f n cc nL own ret G ov wF w pc ls (st) := by
  obtain ⟨p, e, s, m, args, below, meth, c⟩ := X
  intro hX H locs la hw hS hl
  subst hq
  exact lv_aload_n hX.1 hX.2.1 hd rfl (lv_at hl i hi) (hk hX H locs la hw hS hl)
theorem v_aload {k : Nat} {x : Nat} (hd : decode cc pc = .ok (.aload k, 2)) (i : Nat) (hi : ls[i]? = some (k, .ref x)) (q : Nat) (hq : pc + 2 = q) (hk : V l X f n cc nL own ret G ov wF w q ls (.ref x :: st)) : V l X f n cc nL own ret G ov wF w pc ls (st) := by
  obtain ⟨p, e, s, m, args, below, meth, c⟩ := X
  intro hX H locs la hw hS hl
  subst hq
  exact lv_aload hX.1 hX.2.1 hd (lv_at hl i hi) (hk hX H locs la hw hS hl)
theorem v_istore_n {k : Fin 4} {x : Int32} (hd : decode cc pc = .ok (.istore_n k, 1)) (i : Nat) (hi : k.val = i) (hn : i < nL) (ls2 : List (Nat × Value)) (h2 : (i, Value.int x) :: ls.filter (fun z => !(z.1 == i) && !(z.1 + 1 == i && z.2.category == 2)) = ls2) (q : Nat) (hq : pc + 1 = q) (hk : V l X f n cc nL own ret G ov wF w q ls2 (st)) : V l X f n cc nL own ret G ov wF w pc ls (.int x :: st) := by
  obtain ⟨p, e, s, m, args, below, meth, c⟩ := X
  intro hX H locs la hw hS hl
  subst hq
  exact lv_istore_n hX.1 hX.2.1 hd hi hl hn h2 (fun la2 hl2 => hk hX H locs la2 hw hS hl2)
theorem v_istore {i : Nat} {x : Int32} (hd : decode cc pc = .ok (.istore i, 2)) (hn : i < nL) (ls2 : List (Nat × Value)) (h2 : (i, Value.int x) :: ls.filter (fun z => !(z.1 == i) && !(z.1 + 1 == i && z.2.category == 2)) = ls2) (q : Nat) (hq : pc + 2 = q) (hk : V l X f n cc nL own ret G ov wF w q ls2 (st)) : V l X f n cc nL own ret G ov wF w pc ls (.int x :: st) := by
  obtain ⟨p, e, s, m, args, below, meth, c⟩ := X
  intro hX H locs la hw hS hl
  subst hq
  exact lv_istore hX.1 hX.2.1 hd hl hn h2 (fun la2 hl2 => hk hX H locs la2 hw hS hl2)
theorem v_lstore_n {k : Fin 4} {x : Int64} (hd : decode cc pc = .ok (.lstore_n k, 1)) (i : Nat) (hi : k.val = i) (hn : i + 1 < nL) (ls2 : List (Nat × Value)) (h2 : (i, Value.long x) :: ls.filter (fun z => !(z.1 == i) && (!(z.1 == i + 1) && !(z.1 + 1 == i && z.2.category == 2))) = ls2) (q : Nat) (hq : pc + 1 = q) (hk : V l X f n cc nL own ret G ov wF w q ls2 (st)) : V l X f n cc nL own ret G ov wF w pc ls (.long x :: st) := by
  obtain ⟨p, e, s, m, args, below, meth, c⟩ := X
  intro hX H locs la hw hS hl
  subst hq
  exact lv_lstore_n hX.1 hX.2.1 hd hi hl hn h2 (fun la2 hl2 => hk hX H locs la2 hw hS hl2)
theorem v_lstore {i : Nat} {x : Int64} (hd : decode cc pc = .ok (.lstore i, 2)) (hn : i + 1 < nL) (ls2 : List (Nat × Value)) (h2 : (i, Value.long x) :: ls.filter (fun z => !(z.1 == i) && (!(z.1 == i + 1) && !(z.1 + 1 == i && z.2.category == 2))) = ls2) (q : Nat) (hq : pc + 2 = q) (hk : V l X f n cc nL own ret G ov wF w q ls2 (st)) : V l X f n cc nL own ret G ov wF w pc ls (.long x :: st) := by
  obtain ⟨p, e, s, m, args, below, meth, c⟩ := X
  intro hX H locs la hw hS hl
  subst hq
  exact lv_lstore hX.1 hX.2.1 hd hl hn h2 (fun la2 hl2 => hk hX H locs la2 hw hS hl2)
theorem v_astore_n {k : Fin 4} {x : Nat} (hd : decode cc pc = .ok (.astore_n k, 1)) (i : Nat) (hi : k.val = i) (hn : i < nL) (ls2 : List (Nat × Value)) (h2 : (i, Value.ref x) :: ls.filter (fun z => !(z.1 == i) && !(z.1 + 1 == i && z.2.category == 2)) = ls2) (q : Nat) (hq : pc + 1 = q) (hk : V l X f n cc nL own ret G ov wF w q ls2 (st)) : V l X f n cc nL own ret G ov wF w pc ls (.ref x :: st) := by
  obtain ⟨p, e, s, m, args, below, meth, c⟩ := X
  intro hX H locs la hw hS hl
  subst hq
  exact lv_astore_n hX.1 hX.2.1 hd hi hl hn h2 (fun la2 hl2 => hk hX H locs la2 hw hS hl2)
theorem v_astore {i : Nat} {x : Nat} (hd : decode cc pc = .ok (.astore i, 2)) (hn : i < nL) (ls2 : List (Nat × Value)) (h2 : (i, Value.ref x) :: ls.filter (fun z => !(z.1 == i) && !(z.1 + 1 == i && z.2.category == 2)) = ls2) (q : Nat) (hq : pc + 2 = q) (hk : V l X f n cc nL own ret G ov wF w q ls2 (st)) : V l X f n cc nL own ret G ov wF w pc ls (.ref x :: st) := by
  obtain ⟨p, e, s, m, args, below, meth, c⟩ := X
  intro hX H locs la hw hS hl
  subst hq
  exact lv_astore hX.1 hX.2.1 hd hl hn h2 (fun la2 hl2 => hk hX H locs la2 hw hS hl2)
theorem v_iinc {i : Nat} {k : Int} {x : Int32} (hd : decode cc pc = .ok (.iinc i k, 3)) (j : Nat) (hj : ls[j]? = some (i, .int x)) (v : Int32) (hv : x + Int32.ofInt k = v) (hn : i < nL) (ls2 : List (Nat × Value)) (h2 : (i, Value.int v) :: ls.filter (fun z => !(z.1 == i) && !(z.1 + 1 == i && z.2.category == 2)) = ls2) (q : Nat) (hq : pc + 3 = q) (hk : V l X f n cc nL own ret G ov wF w q ls2 (st)) : V l X f n cc nL own ret G ov wF w pc ls (st) := by
  obtain ⟨p, e, s, m, args, below, meth, c⟩ := X
  intro hX H locs la hw hS hl
  subst hq
  exact lv_iinc hX.1 hX.2.1 hd hl hj hv hn h2 (fun la2 hl2 => hk hX H locs la2 hw hS hl2)
theorem v_pick (ks : List Nat) (ls2 : List (Nat × Value)) (h2 : lv_pick ls ks = ls2) (hk : V l X f n cc nL own ret G ov wF w pc ls2 (st)) : V l X f n cc nL own ret G ov wF w pc ls (st) := by
  obtain ⟨p, e, s, m, args, below, meth, c⟩ := X
  intro hX H locs la hw hS hl
  exact hk hX H locs la hw hS (lv_sub hl ks h2)
theorem v_w {w2 : WS} (e : w = w2) (hk : V l X f n cc nL own ret G ov wF w2 pc ls (st)) : V l X f n cc nL own ret G ov wF w pc ls (st) := by
  rw [e]; exact hk
theorem v_topi {x : Int32} (y : Int32) (e : x = y) (hk : V l X f n cc nL own ret G ov wF w pc ls (.int y :: st)) : V l X f n cc nL own ret G ov wF w pc ls (.int x :: st) := by
  rw [e]; exact hk
theorem v_topl {x : Int64} (y : Int64) (e : x = y) (hk : V l X f n cc nL own ret G ov wF w pc ls (.long y :: st)) : V l X f n cc nL own ret G ov wF w pc ls (.long x :: st) := by
  rw [e]; exact hk
theorem v_if_eq {x : Int32} {off : Int} (hd : decode cc pc = .ok (.ifCond .eq off, 3)) (t : Nat) (ht : (pc : Int) + off = (t : Int)) (q : Nat) (hq : pc + 3 = q) (kt : x = 0 → V l X f n cc nL own ret G ov wF w t ls (st)) (kf : ¬ x = 0 → V l X f n cc nL own ret G ov wF w q ls (st)) : V l X f n cc nL own ret G ov wF w pc ls (.int x :: st) := by
  obtain ⟨p, e, s, m, args, below, meth, c⟩ := X
  intro hX H locs la hw hS hl
  subst hq
  exact lv_if_eq hX.1 hX.2.1 hd ht (fun h => kt h hX H locs la hw hS hl) (fun h => kf h hX H locs la hw hS hl)
theorem v_if_ne {x : Int32} {off : Int} (hd : decode cc pc = .ok (.ifCond .ne off, 3)) (t : Nat) (ht : (pc : Int) + off = (t : Int)) (q : Nat) (hq : pc + 3 = q) (kt : ¬ x = 0 → V l X f n cc nL own ret G ov wF w t ls (st)) (kf : x = 0 → V l X f n cc nL own ret G ov wF w q ls (st)) : V l X f n cc nL own ret G ov wF w pc ls (.int x :: st) := by
  obtain ⟨p, e, s, m, args, below, meth, c⟩ := X
  intro hX H locs la hw hS hl
  subst hq
  exact lv_if_ne hX.1 hX.2.1 hd ht (fun h => kt h hX H locs la hw hS hl) (fun h => kf h hX H locs la hw hS hl)
theorem v_if_lt {x : Int32} {off : Int} (hd : decode cc pc = .ok (.ifCond .lt off, 3)) (t : Nat) (ht : (pc : Int) + off = (t : Int)) (q : Nat) (hq : pc + 3 = q) (kt : x < 0 → V l X f n cc nL own ret G ov wF w t ls (st)) (kf : ¬ x < 0 → V l X f n cc nL own ret G ov wF w q ls (st)) : V l X f n cc nL own ret G ov wF w pc ls (.int x :: st) := by
  obtain ⟨p, e, s, m, args, below, meth, c⟩ := X
  intro hX H locs la hw hS hl
  subst hq
  exact lv_if_lt hX.1 hX.2.1 hd ht (fun h => kt h hX H locs la hw hS hl) (fun h => kf h hX H locs la hw hS hl)
theorem v_if_ge {x : Int32} {off : Int} (hd : decode cc pc = .ok (.ifCond .ge off, 3)) (t : Nat) (ht : (pc : Int) + off = (t : Int)) (q : Nat) (hq : pc + 3 = q) (kt : 0 ≤ x → V l X f n cc nL own ret G ov wF w t ls (st)) (kf : ¬ 0 ≤ x → V l X f n cc nL own ret G ov wF w q ls (st)) : V l X f n cc nL own ret G ov wF w pc ls (.int x :: st) := by
  obtain ⟨p, e, s, m, args, below, meth, c⟩ := X
  intro hX H locs la hw hS hl
  subst hq
  exact lv_if_ge hX.1 hX.2.1 hd ht (fun h => kt h hX H locs la hw hS hl) (fun h => kf h hX H locs la hw hS hl)
theorem v_if_gt {x : Int32} {off : Int} (hd : decode cc pc = .ok (.ifCond .gt off, 3)) (t : Nat) (ht : (pc : Int) + off = (t : Int)) (q : Nat) (hq : pc + 3 = q) (kt : 0 < x → V l X f n cc nL own ret G ov wF w t ls (st)) (kf : ¬ 0 < x → V l X f n cc nL own ret G ov wF w q ls (st)) : V l X f n cc nL own ret G ov wF w pc ls (.int x :: st) := by
  obtain ⟨p, e, s, m, args, below, meth, c⟩ := X
  intro hX H locs la hw hS hl
  subst hq
  exact lv_if_gt hX.1 hX.2.1 hd ht (fun h => kt h hX H locs la hw hS hl) (fun h => kf h hX H locs la hw hS hl)
theorem v_if_le {x : Int32} {off : Int} (hd : decode cc pc = .ok (.ifCond .le off, 3)) (t : Nat) (ht : (pc : Int) + off = (t : Int)) (q : Nat) (hq : pc + 3 = q) (kt : x ≤ 0 → V l X f n cc nL own ret G ov wF w t ls (st)) (kf : ¬ x ≤ 0 → V l X f n cc nL own ret G ov wF w q ls (st)) : V l X f n cc nL own ret G ov wF w pc ls (.int x :: st) := by
  obtain ⟨p, e, s, m, args, below, meth, c⟩ := X
  intro hX H locs la hw hS hl
  subst hq
  exact lv_if_le hX.1 hX.2.1 hd ht (fun h => kt h hX H locs la hw hS hl) (fun h => kf h hX H locs la hw hS hl)
theorem v_icmp_eq {x y : Int32} {off : Int} (hd : decode cc pc = .ok (.if_icmp .eq off, 3)) (t : Nat) (ht : (pc : Int) + off = (t : Int)) (q : Nat) (hq : pc + 3 = q) (kt : x = y → V l X f n cc nL own ret G ov wF w t ls (st)) (kf : ¬ x = y → V l X f n cc nL own ret G ov wF w q ls (st)) : V l X f n cc nL own ret G ov wF w pc ls (.int y :: .int x :: st) := by
  obtain ⟨p, e, s, m, args, below, meth, c⟩ := X
  intro hX H locs la hw hS hl
  subst hq
  exact lv_icmp_eq hX.1 hX.2.1 hd ht (fun h => kt h hX H locs la hw hS hl) (fun h => kf h hX H locs la hw hS hl)
theorem v_icmp_ne {x y : Int32} {off : Int} (hd : decode cc pc = .ok (.if_icmp .ne off, 3)) (t : Nat) (ht : (pc : Int) + off = (t : Int)) (q : Nat) (hq : pc + 3 = q) (kt : ¬ x = y → V l X f n cc nL own ret G ov wF w t ls (st)) (kf : x = y → V l X f n cc nL own ret G ov wF w q ls (st)) : V l X f n cc nL own ret G ov wF w pc ls (.int y :: .int x :: st) := by
  obtain ⟨p, e, s, m, args, below, meth, c⟩ := X
  intro hX H locs la hw hS hl
  subst hq
  exact lv_icmp_ne hX.1 hX.2.1 hd ht (fun h => kt h hX H locs la hw hS hl) (fun h => kf h hX H locs la hw hS hl)
theorem v_icmp_lt {x y : Int32} {off : Int} (hd : decode cc pc = .ok (.if_icmp .lt off, 3)) (t : Nat) (ht : (pc : Int) + off = (t : Int)) (q : Nat) (hq : pc + 3 = q) (kt : x < y → V l X f n cc nL own ret G ov wF w t ls (st)) (kf : ¬ x < y → V l X f n cc nL own ret G ov wF w q ls (st)) : V l X f n cc nL own ret G ov wF w pc ls (.int y :: .int x :: st) := by
  obtain ⟨p, e, s, m, args, below, meth, c⟩ := X
  intro hX H locs la hw hS hl
  subst hq
  exact lv_icmp_lt hX.1 hX.2.1 hd ht (fun h => kt h hX H locs la hw hS hl) (fun h => kf h hX H locs la hw hS hl)
theorem v_icmp_ge {x y : Int32} {off : Int} (hd : decode cc pc = .ok (.if_icmp .ge off, 3)) (t : Nat) (ht : (pc : Int) + off = (t : Int)) (q : Nat) (hq : pc + 3 = q) (kt : y ≤ x → V l X f n cc nL own ret G ov wF w t ls (st)) (kf : ¬ y ≤ x → V l X f n cc nL own ret G ov wF w q ls (st)) : V l X f n cc nL own ret G ov wF w pc ls (.int y :: .int x :: st) := by
  obtain ⟨p, e, s, m, args, below, meth, c⟩ := X
  intro hX H locs la hw hS hl
  subst hq
  exact lv_icmp_ge hX.1 hX.2.1 hd ht (fun h => kt h hX H locs la hw hS hl) (fun h => kf h hX H locs la hw hS hl)
theorem v_icmp_gt {x y : Int32} {off : Int} (hd : decode cc pc = .ok (.if_icmp .gt off, 3)) (t : Nat) (ht : (pc : Int) + off = (t : Int)) (q : Nat) (hq : pc + 3 = q) (kt : y < x → V l X f n cc nL own ret G ov wF w t ls (st)) (kf : ¬ y < x → V l X f n cc nL own ret G ov wF w q ls (st)) : V l X f n cc nL own ret G ov wF w pc ls (.int y :: .int x :: st) := by
  obtain ⟨p, e, s, m, args, below, meth, c⟩ := X
  intro hX H locs la hw hS hl
  subst hq
  exact lv_icmp_gt hX.1 hX.2.1 hd ht (fun h => kt h hX H locs la hw hS hl) (fun h => kf h hX H locs la hw hS hl)
theorem v_icmp_le {x y : Int32} {off : Int} (hd : decode cc pc = .ok (.if_icmp .le off, 3)) (t : Nat) (ht : (pc : Int) + off = (t : Int)) (q : Nat) (hq : pc + 3 = q) (kt : x ≤ y → V l X f n cc nL own ret G ov wF w t ls (st)) (kf : ¬ x ≤ y → V l X f n cc nL own ret G ov wF w q ls (st)) : V l X f n cc nL own ret G ov wF w pc ls (.int y :: .int x :: st) := by
  obtain ⟨p, e, s, m, args, below, meth, c⟩ := X
  intro hX H locs la hw hS hl
  subst hq
  exact lv_icmp_le hX.1 hX.2.1 hd ht (fun h => kt h hX H locs la hw hS hl) (fun h => kf h hX H locs la hw hS hl)
theorem v_goto {off : Int} (hd : decode cc pc = .ok (.goto off, 3)) (t : Nat) (ht : (pc : Int) + off = (t : Int)) (hk : V l X f n cc nL own ret G ov wF w t ls (st)) : V l X f n cc nL own ret G ov wF w pc ls (st) := by
  obtain ⟨p, e, s, m, args, below, meth, c⟩ := X
  intro hX H locs la hw hS hl
  exact lv_goto hX.1 hX.2.1 hd ht (hk hX H locs la hw hS hl)
theorem v_tabIn {dflt lo hi : Int} {offs : Array Int} {len : Nat} {x : Int32} {off : Int} (hd : decode cc pc = .ok (.tableswitch dflt lo hi offs, len)) (h1 : ¬ x.toInt < lo) (h2 : ¬ hi < x.toInt) (ho : offs[(x.toInt - lo).toNat]? = some off) (t : Nat) (ht : (pc : Int) + off = (t : Int)) (hk : V l X f n cc nL own ret G ov wF w t ls (st)) : V l X f n cc nL own ret G ov wF w pc ls (.int x :: st) := by
  obtain ⟨p, e, s, m, args, below, meth, c⟩ := X
  intro hX H locs la hw hS hl
  exact lv_tableIn hX.1 hX.2.1 hd h1 h2 ho ht (hk hX H locs la hw hS hl)
theorem v_tabOut {dflt lo hi : Int} {offs : Array Int} {len : Nat} {x : Int32} (hd : decode cc pc = .ok (.tableswitch dflt lo hi offs, len)) (h : x.toInt < lo ∨ hi < x.toInt) (t : Nat) (ht : (pc : Int) + dflt = (t : Int)) (hk : V l X f n cc nL own ret G ov wF w t ls (st)) : V l X f n cc nL own ret G ov wF w pc ls (.int x :: st) := by
  obtain ⟨p, e, s, m, args, below, meth, c⟩ := X
  intro hX H locs la hw hS hl
  exact lv_tableOut hX.1 hX.2.1 hd h ht (hk hX H locs la hw hS hl)
theorem v_end {w2 : WS} {v2 : Option Value} {p : Program} {e : Env} {s : State} {below : List Frame} {H : Heap} {locs : List Loc} (hw : Wd G w H) (hS : va_S (gA G) s.heap H locs) (hv : v2 = ov) (hww : w = wF) (args : Array Value) (t : State) (ht : t.heap = H) : Qo G ov wF args s (.returned v2) t := by
  subst hv
  subst hww
  exact ⟨⟨rfl, by rw [ht]; exact hw⟩, hS.F ht⟩
theorem v_iret {v : Int32} (hd : decode cc pc = .ok (.ireturn, 1)) (hv : some (.int v) = ov) (hww : w = wF) : V l X f n cc nL own (some .int) G ov wF w pc ls ([.int v]) := by
  obtain ⟨p, e, s, m, args, below, meth, c⟩ := X
  intro hX H locs la hw hS hl
  exact W.iret hX.1 hX.2.1 hX.2.2.2.2.2.2.2 (fun t ht _ => v_end (w2 := w) (p := p) (e := e) (below := below) hw hS hv hww _ t ht) hS.2.2 hd hX.2.2.2.2.2.2.1
theorem v_zret {v : Int32} {ty : FieldType} (hd : decode cc pc = .ok (.ireturn, 1)) (hn : narrow ty (.int v) = .int v) (hv : some (.int v) = ov) (hww : w = wF) : V l X f n cc nL own (some ty) G ov wF w pc ls ([.int v]) := by
  obtain ⟨p, e, s, m, args, below, meth, c⟩ := X
  intro hX H locs la hw hS hl
  exact W.zret hX.1 hX.2.1 hX.2.2.2.2.2.2.2 hn (fun t ht _ => v_end (w2 := w) (p := p) (e := e) (below := below) hw hS hv hww _ t ht) hS.2.2 hd hX.2.2.2.2.2.2.1
theorem v_lret {v : Int64} (hd : decode cc pc = .ok (.lreturn, 1)) (hv : some (.long v) = ov) (hww : w = wF) : V l X f n cc nL own (some .long) G ov wF w pc ls ([.long v]) := by
  obtain ⟨p, e, s, m, args, below, meth, c⟩ := X
  intro hX H locs la hw hS hl
  exact W.lret hX.1 hX.2.1 hX.2.2.2.2.2.2.2 (fun t ht _ => v_end (w2 := w) (p := p) (e := e) (below := below) hw hS hv hww _ t ht) hS.2.2 hd hX.2.2.2.2.2.2.1
theorem v_vret (hd : decode cc pc = .ok (.return_, 1)) (hv : none = ov) (hww : w = wF) : V l X f n cc nL own none G ov wF w pc ls ([]) := by
  obtain ⟨p, e, s, m, args, below, meth, c⟩ := X
  intro hX H locs la hw hS hl
  exact W.vret hX.1 hX.2.1 hX.2.2.2.2.2.2.2 (fun t ht _ => v_end (w2 := w) (p := p) (e := e) (below := below) hw hS hv hww _ t ht) hS.2.2 hd hX.2.2.2.2.2.2.1
theorem v_aret {v : Nat} {C : String} (hd : decode cc pc = .ok (.areturn, 1)) (hv : some (.ref v) = ov) (hww : w = wF) : V l X f n cc nL own (some (.object C)) G ov wF w pc ls ([.ref v]) := by
  obtain ⟨p, e, s, m, args, below, meth, c⟩ := X
  intro hX H locs la hw hS hl
  exact W.aret hX.1 hX.2.1 hX.2.2.2.2.2.2.2 (Or.inl ⟨C, rfl⟩) (Or.inr ⟨v, rfl⟩) (fun t ht _ => v_end (w2 := w) (p := p) (e := e) (below := below) hw hS hv hww _ t ht) hS.2.2 hd hX.2.2.2.2.2.2.1
theorem v_get {k ci index N i : Nat} {fs : List Value} {v : Value} {C ref : String} {T : u_T} (hd : decode cc pc = .ok (.getfield index, 3)) (hin : ∀ z ∈ u_ws C T N, z ∈ BIG) (hcl : vwCl[ci]? = some (C, T, N)) (hlink : Cond.fieldLink own index ref (T i).2.1 (T i).2.2.1 ∈ BIG) (href : (T i).1 = ref) (hi : i < N) (hk : k < 104) (hc : cel G w k = ob ci fs) (hv : fs[i]? = some v) (q : Nat) (hq : pc + 3 = q) (hkk : V l X f n cc nL own ret G ov wF w q ls (v :: st)) : V l X f n cc nL own ret G ov wF w pc ls (.ref (ga G k) :: st) := by
  obtain ⟨p, e, s, m, args, below, meth, c⟩ := X
  intro hX H locs la hw hS hl
  subst hq
  exact va_get (D := gD G) hX.1 hX.2.1 hX.2.2.2.2.1 hin hX.2.2.2.1 hX.2.2.2.2.2.1.1 hw k (wl_at hk hc) hcl i hi (hX.2.2.2.2.1 _ hlink) (by rw [href]; exact fun _ h => h) hv hd (hkk hX H locs la hw hS hl)
theorem v_put {k ci index N i : Nat} {fs : List Value} {v : Value} {C ref : String} {T : u_T} {ty : FieldType} {w2 : WS} (hd : decode cc pc = .ok (.putfield index, 3)) (hin : ∀ z ∈ u_ws C T N, z ∈ BIG) (ty0 : Nat → FieldType) (hty : ∀ k, k < N → parseFieldDescriptor (T k).2.2.1 = some (ty0 k)) (hnm : ∀ a, a < N → ∀ b, b < N → a ≠ b → (T a).2.1 ≠ (T b).2.1) (hcl : vwCl[ci]? = some (C, T, N)) (hlink : Cond.fieldLink own index ref (T i).2.1 (T i).2.2.1 ∈ BIG) (href : (T i).1 = ref) (hfin : (T i).2.2.2 = false) (hdt : parseFieldDescriptor (T i).2.2.1 = some ty) (hn : narrow ty v = v) (hfit : fits ty v = true) (hi : i < N) (hk : k < 104) (hc : cel G w k = ob ci fs) (hlen : i < fs.length) (h2 : ∀ j, j < 104 → cel G w2 j = if j = k then ob ci (fs.set i v) else cel G w j) (q : Nat) (hq : pc + 3 = q) (hkk : V l X f n cc nL own ret G ov wF w2 q ls (st)) : V l X f n cc nL own ret G ov wF w pc ls (v :: .ref (ga G k) :: st) := by
  obtain ⟨p, e, s, m, args, below, meth, c⟩ := X
  intro hX H locs la hw hS hl
  subst hq
  refine va_put (D := gD G) hX.1 hX.2.1 hX.2.2.2.2.1 hin ty0 hty hnm hX.2.2.2.1 hX.2.2.2.2.2.1.1 hw (hX.2.2.2.2.2.1.2.2.1.D w) hS k (wl_at hk hc) hcl i hi (hX.2.2.2.2.1 _ hlink) (by rw [href]; exact fun _ h => h) hfin hdt hn hfit hlen hd (fun H1 locs1 hP1 _ hS1 => ?_)
  refine hkk hX H1 locs1 la ?_ hS1 hl
  have e := wl_set hk h2
  unfold ob at e
  rw [e] at hP1
  exact hP1
theorem v_iald {k N : Nat} {a : Nat → Int32} (hd : decode cc pc = .ok (.iaload, 1)) (hk : k < 104) (hc : cel G w k = ai (gcI G) N a) {x : Int32} (i : Nat) (hx : x = nI i) (hi : i < N) (hN : N < 2 ^ 31) (q : Nat) (hq : pc + 1 = q) (hkk : V l X f n cc nL own ret G ov wF w q ls (.int (a i) :: st)) : V l X f n cc nL own ret G ov wF w pc ls (.int x :: .ref (ga G k) :: st) := by
  obtain ⟨p, e, s, m, args, below, meth, c⟩ := X
  intro hX H locs la hw hS hl
  subst hq
  subst hx
  refine va_iald (D := gD G) hX.1 hX.2.1 hX.2.2.2.2.2.1.1 hw k 0 (wl_at hk hc) rfl (vp_in_nI hi hN) hd ?_
  rw [nI_clamp (Nat.lt_trans hi hN)]
  exact hkk hX H locs la hw hS hl
theorem v_bald {k N : Nat} {a : Nat → Int32} (hd : decode cc pc = .ok (.baload, 1)) (hk : k < 104) (hc : cel G w k = ai (gcB G) N a) {x : Int32} (i : Nat) (hx : x = nI i) (hi : i < N) (hN : N < 2 ^ 31) (q : Nat) (hq : pc + 1 = q) (hkk : V l X f n cc nL own ret G ov wF w q ls (.int (a i) :: st)) : V l X f n cc nL own ret G ov wF w pc ls (.int x :: .ref (ga G k) :: st) := by
  obtain ⟨p, e, s, m, args, below, meth, c⟩ := X
  intro hX H locs la hw hS hl
  subst hq
  subst hx
  refine va_bald (D := gD G) hX.1 hX.2.1 hX.2.2.2.2.2.1.1 hw k 1 (wl_at hk hc) rfl (vp_in_nI hi hN) hd ?_
  rw [nI_clamp (Nat.lt_trans hi hN)]
  exact hkk hX H locs la hw hS hl
theorem v_lald {k N : Nat} {a : Nat → Int64} (hd : decode cc pc = .ok (.laload, 1)) (hk : k < 104) (hc : cel G w k = aj (gcJ G) N a) {x : Int32} (i : Nat) (hx : x = nI i) (hi : i < N) (hN : N < 2 ^ 31) (q : Nat) (hq : pc + 1 = q) (hkk : V l X f n cc nL own ret G ov wF w q ls (.long (a i) :: st)) : V l X f n cc nL own ret G ov wF w pc ls (.int x :: .ref (ga G k) :: st) := by
  obtain ⟨p, e, s, m, args, below, meth, c⟩ := X
  intro hX H locs la hw hS hl
  subst hq
  subst hx
  refine va_lald (D := gD G) hX.1 hX.2.1 hX.2.2.2.2.2.1.1 hw k 2 (wl_at hk hc) rfl (vp_in_nI hi hN) hd ?_
  rw [nI_clamp (Nat.lt_trans hi hN)]
  exact hkk hX H locs la hw hS hl
theorem v_iast {k N : Nat} {a : Nat → Int32} {w2 : WS} (hd : decode cc pc = .ok (.iastore, 1)) (hk : k < 104) (hc : cel G w k = ai (gcI G) N a) {x : Int32} {v : Int32} (i : Nat) (hx : x = nI i) (hi : i < N) (hN : N < 2 ^ 31) (h2 : ∀ j, j < 104 → cel G w2 j = if j = k then ai (gcI G) N (upd a i v) else cel G w j) (q : Nat) (hq : pc + 1 = q) (hkk : V l X f n cc nL own ret G ov wF w2 q ls (st)) : V l X f n cc nL own ret G ov wF w pc ls (.int v :: .int x :: .ref (ga G k) :: st) := by
  obtain ⟨p, e, s, m, args, below, meth, c⟩ := X
  intro hX H locs la hw hS hl
  subst hq
  subst hx
  refine va_iast (D := gD G) hX.1 hX.2.1 hX.2.2.2.2.2.1.1 hw (hX.2.2.2.2.2.1.2.2.1.D w) hS k 0 (wl_at hk hc) rfl (vp_in_nI hi hN) hd (fun H1 locs1 hP1 _ hS1 => ?_)
  rw [nI_clamp (Nat.lt_trans hi hN)] at hP1
  refine hkk hX H1 locs1 la ?_ hS1 hl
  have e := wl_set hk h2
  unfold ai at e
  rw [e] at hP1
  exact hP1
theorem v_bast {k N : Nat} {a : Nat → Int32} {w2 : WS} (hd : decode cc pc = .ok (.bastore, 1)) (hk : k < 104) (hc : cel G w k = ai (gcB G) N a) {x : Int32} {v : Int32} (i : Nat) (hx : x = nI i) (hi : i < N) (hN : N < 2 ^ 31) (h2 : ∀ j, j < 104 → cel G w2 j = if j = k then ai (gcB G) N (upd a i (vp_nar .byte v)) else cel G w j) (q : Nat) (hq : pc + 1 = q) (hkk : V l X f n cc nL own ret G ov wF w2 q ls (st)) : V l X f n cc nL own ret G ov wF w pc ls (.int v :: .int x :: .ref (ga G k) :: st) := by
  obtain ⟨p, e, s, m, args, below, meth, c⟩ := X
  intro hX H locs la hw hS hl
  subst hq
  subst hx
  refine va_bast (D := gD G) hX.1 hX.2.1 hX.2.2.2.2.2.1.1 hw (hX.2.2.2.2.2.1.2.2.1.D w) hS k 1 (wl_at hk hc) rfl (vp_in_nI hi hN) hd (fun H1 locs1 hP1 _ hS1 => ?_)
  rw [nI_clamp (Nat.lt_trans hi hN)] at hP1
  refine hkk hX H1 locs1 la ?_ hS1 hl
  have e := wl_set hk h2
  unfold ai at e
  rw [e] at hP1
  exact hP1
theorem v_last {k N : Nat} {a : Nat → Int64} {w2 : WS} (hd : decode cc pc = .ok (.lastore, 1)) (hk : k < 104) (hc : cel G w k = aj (gcJ G) N a) {x : Int32} {v : Int64} (i : Nat) (hx : x = nI i) (hi : i < N) (hN : N < 2 ^ 31) (h2 : ∀ j, j < 104 → cel G w2 j = if j = k then aj (gcJ G) N (vp_updL a i v) else cel G w j) (q : Nat) (hq : pc + 1 = q) (hkk : V l X f n cc nL own ret G ov wF w2 q ls (st)) : V l X f n cc nL own ret G ov wF w pc ls (.long v :: .int x :: .ref (ga G k) :: st) := by
  obtain ⟨p, e, s, m, args, below, meth, c⟩ := X
  intro hX H locs la hw hS hl
  subst hq
  subst hx
  refine va_last (D := gD G) hX.1 hX.2.1 hX.2.2.2.2.2.1.1 hw (hX.2.2.2.2.2.1.2.2.1.D w) hS k 2 (wl_at hk hc) rfl (vp_in_nI hi hN) hd (fun H1 locs1 hP1 _ hS1 => ?_)
  rw [nI_clamp (Nat.lt_trans hi hN)] at hP1
  refine hkk hX H1 locs1 la ?_ hS1 hl
  have e := wl_set hk h2
  unfold aj at e
  rw [e] at hP1
  exact hP1
theorem v_alen {k N : Nat} {a : Nat → Int32} (hd : decode cc pc = .ok (.arraylength, 1)) (hk : k < 104) (hc : cel G w k = ai (gcI G) N a) (q : Nat) (hq : pc + 1 = q) (hkk : V l X f n cc nL own ret G ov wF w q ls (.int (nI N) :: st)) : V l X f n cc nL own ret G ov wF w pc ls (.ref (ga G k) :: st) := by
  obtain ⟨p, e, s, m, args, below, meth, c⟩ := X
  intro hX H locs la hw hS hl
  subst hq
  exact va_alen (D := gD G) hX.1 hX.2.1 hX.2.2.2.2.2.1.1 hw k 0 (wl_at hk hc) rfl rfl hd (hkk hX H locs la hw hS hl)
theorem v_alenL {k N : Nat} {a : Nat → Int64} (hd : decode cc pc = .ok (.arraylength, 1)) (hk : k < 104) (hc : cel G w k = aj (gcJ G) N a) (q : Nat) (hq : pc + 1 = q) (hkk : V l X f n cc nL own ret G ov wF w q ls (.int (nI N) :: st)) : V l X f n cc nL own ret G ov wF w pc ls (.ref (ga G k) :: st) := by
  obtain ⟨p, e, s, m, args, below, meth, c⟩ := X
  intro hX H locs la hw hS hl
  subst hq
  exact va_alen (D := gD G) hX.1 hX.2.1 hX.2.2.2.2.2.1.1 hw k 2 (wl_at hk hc) rfl rfl hd (hkk hX H locs la hw hS hl)
theorem v_aaldE {k N : Nat} {a : Nat → Option Nat} (hd : decode cc pc = .ok (.aaload, 1)) (hk : k < 104) (hc : cel G w k = aq (gcE G) N a) {x : Int32} (i : Nat) (hx : x = nI i) (hi : i < N) (hN : N < 2 ^ 31) {b : Nat} (hb : a i = some b) (q : Nat) (hq : pc + 1 = q) (hkk : V l X f n cc nL own ret G ov wF w q ls (.ref b :: st)) : V l X f n cc nL own ret G ov wF w pc ls (.int x :: .ref (ga G k) :: st) := by
  obtain ⟨p, e, s, m, args, below, meth, c⟩ := X
  intro hX H locs la hw hS hl
  subst hq
  subst hx
  refine va_aldq (D := gD G) hX.1 hX.2.1 hX.2.2.2.2.2.1.1 hw k 3 (wl_at hk hc) rfl (vp_in_nI hi hN) hd ?_
  rw [nI_clamp (Nat.lt_trans hi hN), hb]
  exact hkk hX H locs la hw hS hl
theorem v_aaldS {k N : Nat} {a : Nat → Option Nat} (hd : decode cc pc = .ok (.aaload, 1)) (hk : k < 104) (hc : cel G w k = aq (gcS G) N a) {x : Int32} (i : Nat) (hx : x = nI i) (hi : i < N) (hN : N < 2 ^ 31) {b : Nat} (hb : a i = some b) (q : Nat) (hq : pc + 1 = q) (hkk : V l X f n cc nL own ret G ov wF w q ls (.ref b :: st)) : V l X f n cc nL own ret G ov wF w pc ls (.int x :: .ref (ga G k) :: st) := by
  obtain ⟨p, e, s, m, args, below, meth, c⟩ := X
  intro hX H locs la hw hS hl
  subst hq
  subst hx
  refine va_aldq (D := gD G) hX.1 hX.2.1 hX.2.2.2.2.2.1.1 hw k 4 (wl_at hk hc) rfl (vp_in_nI hi hN) hd ?_
  rw [nI_clamp (Nat.lt_trans hi hN), hb]
  exact hkk hX H locs la hw hS hl
theorem v_aaldG {k N : Nat} {a : Nat → Option Nat} (hd : decode cc pc = .ok (.aaload, 1)) (hk : k < 104) (hc : cel G w k = aq (gcG G) N a) {x : Int32} (i : Nat) (hx : x = nI i) (hi : i < N) (hN : N < 2 ^ 31) {b : Nat} (hb : a i = some b) (q : Nat) (hq : pc + 1 = q) (hkk : V l X f n cc nL own ret G ov wF w q ls (.ref b :: st)) : V l X f n cc nL own ret G ov wF w pc ls (.int x :: .ref (ga G k) :: st) := by
  obtain ⟨p, e, s, m, args, below, meth, c⟩ := X
  intro hX H locs la hw hS hl
  subst hq
  subst hx
  exact W.aald (v := .ref b) (ty := .array .int) hX.1 hX.2.1 (hw k _ (wl_at hk hc)) ((hX.2.2.2.2.2.1.1.2 5 _ rfl).1 N (fun j => va_rf (a j))) rfl (fun q => by cases q) (by show ¬ (_ < 0 ∨ (arrV _ _ _).slots.size ≤ _); rw [arrV_size]; exact vp_in_nI hi hN) (by show (arrV _ _ _).slots[_]? = _; rw [nI_clamp (Nat.lt_trans hi hN), arrV_read _ _ hi, hb]; rfl) rfl rfl hd (hkk hX H locs la hw hS hl)
theorem n_iadd {x y : Int32} (hd : decode cc pc = .ok (.iadd, 1)) (a b : Nat) (hx : x = nI a) (hy : y = nI b)  (q : Nat) (hq : pc + 1 = q) (hk : V l X f n cc nL own ret G ov wF w q ls (.int (nI (a + b)) :: st)) : V l X f n cc nL own ret G ov wF w pc ls (.int y :: .int x :: st) := by
  subst hx
  subst hy
  exact v_iadd hd q hq (by rw [nI_add]; exact hk)
theorem n_imul {x y : Int32} (hd : decode cc pc = .ok (.imul, 1)) (a b : Nat) (hx : x = nI a) (hy : y = nI b)  (q : Nat) (hq : pc + 1 = q) (hk : V l X f n cc nL own ret G ov wF w q ls (.int (nI (a * b)) :: st)) : V l X f n cc nL own ret G ov wF w pc ls (.int y :: .int x :: st) := by
  subst hx
  subst hy
  exact v_imul hd q hq (by rw [pk_mul]; exact hk)
theorem n_isub {x y : Int32} (hd : decode cc pc = .ok (.isub, 1)) (a b : Nat) (hx : x = nI a) (hy : y = nI b) (h : b ≤ a) (q : Nat) (hq : pc + 1 = q) (hk : V l X f n cc nL own ret G ov wF w q ls (.int (nI (a - b)) :: st)) : V l X f n cc nL own ret G ov wF w pc ls (.int y :: .int x :: st) := by
  subst hx
  subst hy
  exact v_isub hd q hq (by rw [pk_sub h]; exact hk)
theorem n_idiv {x y : Int32} (hd : decode cc pc = .ok (.idiv, 1)) (a b : Nat) (hx : x = nI a) (hy : y = nI b) (h : a < 2 ^ 31) (h0 : 0 < b) (hb : b < 2 ^ 31) (q : Nat) (hq : pc + 1 = q) (hk : V l X f n cc nL own ret G ov wF w q ls (.int (nI (a / b)) :: st)) : V l X f n cc nL own ret G ov wF w pc ls (.int y :: .int x :: st) := by
  subst hx
  subst hy
  exact v_idiv hd (nI_ne0 h0 hb) q hq (by rw [pk_div h h0 hb]; exact hk)
theorem n_irem {x y : Int32} (hd : decode cc pc = .ok (.irem, 1)) (a b : Nat) (hx : x = nI a) (hy : y = nI b) (h : a < 2 ^ 31) (h0 : 0 < b) (hb : b < 2 ^ 31) (q : Nat) (hq : pc + 1 = q) (hk : V l X f n cc nL own ret G ov wF w q ls (.int (nI (a % b)) :: st)) : V l X f n cc nL own ret G ov wF w pc ls (.int y :: .int x :: st) := by
  subst hx
  subst hy
  exact v_irem hd (nI_ne0 h0 hb) q hq (by rw [pk_rem h h0 hb]; exact hk)
theorem n_icmp_ge {x y : Int32} {off : Int} (hd : decode cc pc = .ok (.if_icmp .ge off, 3)) (a b : Nat) (hx : x = nI a) (hy : y = nI b) (ha : a < 2 ^ 31) (hb : b < 2 ^ 31) (t : Nat) (ht : (pc : Int) + off = (t : Int)) (q : Nat) (hq : pc + 3 = q) (kt : b ≤ a → V l X f n cc nL own ret G ov wF w t ls (st)) (kf : a < b → V l X f n cc nL own ret G ov wF w q ls (st)) : V l X f n cc nL own ret G ov wF w pc ls (.int y :: .int x :: st) := by
  subst hx
  subst hy
  exact v_icmp_ge hd t ht q hq (fun h => kt ((nI_leI hb ha).mp h)) (fun h => kf (Nat.lt_of_not_le fun z => h ((nI_leI hb ha).mpr z)))
theorem n_icmp_lt {x y : Int32} {off : Int} (hd : decode cc pc = .ok (.if_icmp .lt off, 3)) (a b : Nat) (hx : x = nI a) (hy : y = nI b) (ha : a < 2 ^ 31) (hb : b < 2 ^ 31) (t : Nat) (ht : (pc : Int) + off = (t : Int)) (q : Nat) (hq : pc + 3 = q) (kt : a < b → V l X f n cc nL own ret G ov wF w t ls (st)) (kf : b ≤ a → V l X f n cc nL own ret G ov wF w q ls (st)) : V l X f n cc nL own ret G ov wF w pc ls (.int y :: .int x :: st) := by
  subst hx
  subst hy
  exact v_icmp_lt hd t ht q hq (fun h => kt ((nI_ltI ha hb).mp h)) (fun h => kf (Nat.le_of_not_lt fun z => h ((nI_ltI ha hb).mpr z)))
theorem n_icmp_gt {x y : Int32} {off : Int} (hd : decode cc pc = .ok (.if_icmp .gt off, 3)) (a b : Nat) (hx : x = nI a) (hy : y = nI b) (ha : a < 2 ^ 31) (hb : b < 2 ^ 31) (t : Nat) (ht : (pc : Int) + off = (t : Int)) (q : Nat) (hq : pc + 3 = q) (kt : b < a → V l X f n cc nL own ret G ov wF w t ls (st)) (kf : a ≤ b → V l X f n cc nL own ret G ov wF w q ls (st)) : V l X f n cc nL own ret G ov wF w pc ls (.int y :: .int x :: st) := by
  subst hx
  subst hy
  exact v_icmp_gt hd t ht q hq (fun h => kt ((nI_ltI hb ha).mp h)) (fun h => kf (Nat.le_of_not_lt fun z => h ((nI_ltI hb ha).mpr z)))
theorem n_icmp_le {x y : Int32} {off : Int} (hd : decode cc pc = .ok (.if_icmp .le off, 3)) (a b : Nat) (hx : x = nI a) (hy : y = nI b) (ha : a < 2 ^ 31) (hb : b < 2 ^ 31) (t : Nat) (ht : (pc : Int) + off = (t : Int)) (q : Nat) (hq : pc + 3 = q) (kt : a ≤ b → V l X f n cc nL own ret G ov wF w t ls (st)) (kf : b < a → V l X f n cc nL own ret G ov wF w q ls (st)) : V l X f n cc nL own ret G ov wF w pc ls (.int y :: .int x :: st) := by
  subst hx
  subst hy
  exact v_icmp_le hd t ht q hq (fun h => kt ((nI_leI ha hb).mp h)) (fun h => kf (Nat.lt_of_not_le fun z => h ((nI_leI ha hb).mpr z)))
theorem n_icmp_eq {x y : Int32} {off : Int} (hd : decode cc pc = .ok (.if_icmp .eq off, 3)) (a b : Nat) (hx : x = nI a) (hy : y = nI b) (ha : a < 2 ^ 31) (hb : b < 2 ^ 31) (t : Nat) (ht : (pc : Int) + off = (t : Int)) (q : Nat) (hq : pc + 3 = q) (kt : a = b → V l X f n cc nL own ret G ov wF w t ls (st)) (kf : a ≠ b → V l X f n cc nL own ret G ov wF w q ls (st)) : V l X f n cc nL own ret G ov wF w pc ls (.int y :: .int x :: st) := by
  subst hx
  subst hy
  exact v_icmp_eq hd t ht q hq (fun h => kt ((nI_eq ha hb).mp h)) (fun h => kf (fun z => h ((nI_eq ha hb).mpr z)))
theorem n_icmp_ne {x y : Int32} {off : Int} (hd : decode cc pc = .ok (.if_icmp .ne off, 3)) (a b : Nat) (hx : x = nI a) (hy : y = nI b) (ha : a < 2 ^ 31) (hb : b < 2 ^ 31) (t : Nat) (ht : (pc : Int) + off = (t : Int)) (q : Nat) (hq : pc + 3 = q) (kt : a ≠ b → V l X f n cc nL own ret G ov wF w t ls (st)) (kf : a = b → V l X f n cc nL own ret G ov wF w q ls (st)) : V l X f n cc nL own ret G ov wF w pc ls (.int y :: .int x :: st) := by
  subst hx
  subst hy
  exact v_icmp_ne hd t ht q hq (fun h => kt (fun z => h ((nI_eq ha hb).mpr z))) (fun h => kf ((nI_eq ha hb).mp h))
theorem v_ifb_eq {b : Bool} {off : Int} (hd : decode cc pc = .ok (.ifCond .eq off, 3)) (t : Nat) (ht : (pc : Int) + off = (t : Int)) (q : Nat) (hq : pc + 3 = q) (kt : b = false → V l X f n cc nL own ret G ov wF w t ls (st)) (kf : b = true → V l X f n cc nL own ret G ov wF w q ls (st)) : V l X f n cc nL own ret G ov wF w pc ls (.int (b2 b) :: st) := by
  exact v_if_eq hd t ht q hq (fun h => kt (b2_0.mp h)) (fun h => kf (b2_n.mp h))
theorem v_ifb_ne {b : Bool} {off : Int} (hd : decode cc pc = .ok (.ifCond .ne off, 3)) (t : Nat) (ht : (pc : Int) + off = (t : Int)) (q : Nat) (hq : pc + 3 = q) (kt : b = true → V l X f n cc nL own ret G ov wF w t ls (st)) (kf : b = false → V l X f n cc nL own ret G ov wF w q ls (st)) : V l X f n cc nL own ret G ov wF w pc ls (.int (b2 b) :: st) := by
  exact v_if_ne hd t ht q hq (fun h => kt (b2_n.mp h)) (fun h => kf (b2_0.mp h))
theorem big_in {y : MethodName} {cc : ByteArray} {nL : Nat} {ret : Option FieldType} (h : Cond.code y cc nL ret ∈ BIG) : ∀ z ∈ (Cond.code y cc nL ret :: BIG), z ∈ BIG ∧ ((z.onTables && z.keeps) = true ∨ ∃ ty, z = .arrayClass ty) := by
  intro z hz
  have hm : z ∈ BIG := by
    rcases List.mem_cons.mp hz with e | e
    · rw [e]; exact h
    · exact e
  exact ⟨hm, good_of_word (List.mem_filter.mp hm).2⟩
/-- what is known of a method that is called: its code among the words, its class ready, how many arguments -/
def Kal (y : MethodName) (cc : ByteArray) (nL : Nat) (ret : Option FieldType) (k : Nat) : Prop := Cond.code y cc nL ret ∈ BIG ∧ Cond.initialized y.cls ∈ BIG ∧ (y.cls ≠ "java/lang/invoke/MethodHandle" ∧ y.cls ≠ "java/lang/invoke/VarHandle") ∧ (parseMethodDescriptor y.desc).map (fun d => d.parameters.length) = some k
theorem Kal.arity {y : MethodName} {cc : ByteArray} {nL : Nat} {ret : Option FieldType} {k : Nat} (h : Kal y cc nL ret k) : ∀ sig, parseMethodDescriptor y.desc = some sig → k = sig.parameters.length := by
  intro sig hs
  have h4 := h.2.2.2
  rw [hs] at h4
  exact (Option.some.inj h4).symm
theorem ct_pre {G : Gl} {w : WS} {s : State} {H : Heap} {locs : List Loc} {avs : List Value} (hK : Kd G s) (hw : Wd G w H) (hS : va_S (gA G) s.heap H locs) : FrameBlind (va_Pc avs (fun U => Wd G w U.heap ∧ Kd G U)) ∧ ∀ U : State, U.heap = H → s.WarmedH U.vm → va_Pc avs (fun U => Wd G w U.heap ∧ Kd G U) avs.toArray U :=
  ⟨fun a U g mk q => ⟨q.1, q.2.1, q.2.2.call g mk a⟩, fun U hU hW => ⟨rfl, by rw [hU]; exact hw, hK.next hW (locs := locs) (by rw [hU]; exact hS)⟩⟩
theorem ct_go {l : Launch} {G : Gl} {ov2 : Option Value} {w2 : WS} {p : Program} {e : Env} {R : Room} {s : State} {m : MethodId} {args a : Array Value} {below : List Frame} {meth : Method} {c : Code} {H : Heap} {locs : List Loc} {Q : State → Prop} {pc : Nat} {la : Array Slot} {st0 rest : List Value} (hr : va_Run p l e R s m args below meth c H locs 0 0 0 0 (F0 m pc la st0) rest (Qo G ov2 w2 a) (gA G)) (hS : va_S (gA G) s.heap H locs)
    (kk : ∀ (H1 : Heap) (locs1 : List Loc), Wd G w2 H1 → va_S (gA G) s.heap H1 locs1 → W p l e R s m args below meth c H1 locs1 0 0 Q (F0 m (pc + 3) la (ov2.toList ++ rest))) : W p l e R s m args below meth c H locs 0 0 Q (F0 m pc la st0) := by
  intro T hT X
  obtain ⟨v, st₀, t, T', L, h0, X', hL, e1, e2, ⟨⟨hv, hw⟩, hz, hk⟩, st⟩ := hr T hT X
  cases hv
  rw [h0] at hz hk
  obtain ⟨t2, a1, b1⟩ := kk T'.heap (locs ++ L) (by rw [e1]; exact hw)
    ⟨Nat.le_trans hS.1 (by rw [e1]; exact hz), fun q h1 h2 => by rw [e1, hk q (Nat.lt_of_lt_of_le h1 hS.1) h2]; exact hS.2.1 q h1 h2, fun q hq => by
      rcases List.mem_append.mp hq with h | h
      · exact hS.2.2 q h
      · exact hL q h⟩ T' rfl X'
  exact ⟨t2, st t2 a1, b1⟩
theorem v_callS {y : MethodName} {cc2 : ByteArray} {nL2 f2 n2 index : Nat} {ret2 : Option FieldType} {ov2 : Option Value} {w1 w2 : WS} {avs : List Value} {kn : Nat} (hM : Ct l G y cc2 nL2 ret2 f2 n2 avs w1 ov2 w2) (hkal : Kal y cc2 nL2 ret2 kn) (hn : avs.length = kn) (hd : decode cc pc = .ok (.invokestatic index, 3)) (hlink : Cond.methodLink own index y ∈ BIG) (hst : Cond.static y ∈ BIG) (hR : f2 + 1 ≤ f ∧ 8 + (nL2 + 11) + n2 ≤ n) (rest : List Value) (hr : (rest.map fun v => v.category).sum ≤ 8) (hs : st = avs.reverse ++ rest) (ew : w = w1) (q : Nat) (hq : pc + 3 = q) (hkk : V l X f n cc nL own ret G ov wF w2 q ls (ov2.toList ++ rest)) : V l X f n cc nL own ret G ov wF w pc ls (st) := by
  obtain ⟨p, e, s, m, args, below, meth, c⟩ := X
  intro hX H locs la hw hS hl
  subst hq
  subst ew
  exact ct_go (va_runS ⟨hX.1, hX.2.1, hX.2.2.1, hX.2.2.2.1, hX.2.2.2.2.1⟩ hM ⟨⟨rfl, rfl, hR.1, hR.2, pay_in hX.2.2.2.2.1 (big_in hkal.1), List.mem_cons_self, hX.2.2.2.2.1 _ hkal.1, hX.2.2.2.2.1 _ hkal.2.1, hkal.2.2.1, hkal.arity, hX.2.2.2.2.1 _ hlink⟩, hX.2.2.2.2.1 _ hst⟩ (ct_pre hX.2.2.2.2.2.1 hw hS) rfl hn hl.1 hs (lv_room hr) hd ⟨Nat.le_refl _, Nat.le_refl _⟩) hS (fun H1 locs1 hw1 hS1 => hkk hX H1 locs1 la hw1 hS1 hl)
theorem v_callSN {y : MethodName} {cc2 : ByteArray} {nL2 f2 n2 index : Nat} {ret2 : Option FieldType} {ov2 : Option Value} {w1 w2 : WS} {avs : List Value} {kn : Nat} {host : String} (hM : Ct l G y cc2 nL2 ret2 f2 n2 avs w1 ov2 w2) (hkal : Kal y cc2 nL2 ret2 kn) (hn : avs.length = kn) (hd : decode cc pc = .ok (.invokestatic index, 3)) (hlink : ∀ U, Nst U → va_Nw (.methodLinkNest own index y host) U) (hst : Cond.static y ∈ BIG) (hR : f2 + 1 ≤ f ∧ 8 + (nL2 + 11) + n2 ≤ n) (rest : List Value) (hr : (rest.map fun v => v.category).sum ≤ 8) (hs : st = avs.reverse ++ rest) (ew : w = w1) (q : Nat) (hq : pc + 3 = q) (hkk : V l X f n cc nL own ret G ov wF w2 q ls (ov2.toList ++ rest)) : V l X f n cc nL own ret G ov wF w pc ls (st) := by
  obtain ⟨p, e, s, m, args, below, meth, c⟩ := X
  intro hX H locs la hw hS hl
  subst hq
  subst ew
  exact ct_go (va_runSN ⟨hX.1, hX.2.1, hX.2.2.1, hX.2.2.2.1, hX.2.2.2.2.1⟩ hM ⟨⟨⟨rfl, rfl, hR.1, hR.2, pay_in hX.2.2.2.2.1 (big_in hkal.1), List.mem_cons_self⟩, hX.2.2.2.2.1 _ hkal.1, hX.2.2.2.2.1 _ hkal.2.1, hkal.2.2.1, hkal.arity, va_Nw.use rfl (hlink s hX.2.2.2.2.2.1.2.1)⟩, hX.2.2.2.2.1 _ hst, trivial⟩ (ct_pre hX.2.2.2.2.2.1 hw hS) rfl hn hl.1 hs (lv_room hr) hd ⟨Nat.le_refl _, Nat.le_refl _⟩) hS (fun H1 locs1 hw1 hS1 => hkk hX H1 locs1 la hw1 hS1 hl)
theorem v_callV {y : MethodName} {cc2 : ByteArray} {nL2 f2 n2 index : Nat} {ret2 : Option FieldType} {ov2 : Option Value} {w1 w2 : WS} {As : List Value} {kn k ci : Nat} {fs : List Value} {T : u_T} {N : Nat} (hM : Ct l G y cc2 nL2 ret2 f2 n2 (.ref (ga G k) :: As) w1 ov2 w2) (hkal : Kal y cc2 nL2 ret2 kn) (hn : As.length = kn) (hd : decode cc pc = .ok (.invokevirtual index, 3)) (hlink : Cond.methodLink own index y ∈ BIG) (hins : Cond.instanceMethod y ∈ BIG) (hsel : Cond.selects y.cls y y ∈ BIG) (hcl : vwCl[ci]? = some (y.cls, T, N)) (hk : k < 104) (hc : cel G w1 k = ob ci fs) (hR : f2 + 1 ≤ f ∧ 8 + (nL2 + 11) + n2 ≤ n) (rest : List Value) (hr : (rest.map fun v => v.category).sum ≤ 8) (hs : st = As.reverse ++ .ref (ga G k) :: rest) (ew : w = w1) (q : Nat) (hq : pc + 3 = q) (hkk : V l X f n cc nL own ret G ov wF w2 q ls (ov2.toList ++ rest)) : V l X f n cc nL own ret G ov wF w pc ls (st) := by
  obtain ⟨p, e, s, m, args, below, meth, c⟩ := X
  intro hX H locs la hw hS hl
  subst hq
  subst ew
  exact ct_go (va_runV ⟨hX.1, hX.2.1, hX.2.2.1, hX.2.2.2.1, hX.2.2.2.2.1⟩ hM ⟨⟨rfl, rfl, hR.1, hR.2, pay_in hX.2.2.2.2.1 (big_in hkal.1), List.mem_cons_self, hX.2.2.2.2.1 _ hkal.1, hX.2.2.2.2.1 _ hkal.2.1, hkal.2.2.1, hkal.arity, hX.2.2.2.2.1 _ hlink⟩, hX.2.2.2.2.1 _ hins, hX.2.2.2.2.1 _ hsel⟩ ⟨(ct_pre hX.2.2.2.2.2.1 hw hS).1, va_recv hX.2.2.2.2.2.1.1 hw hcl (wl_at hk hc), (ct_pre hX.2.2.2.2.2.1 hw hS).2⟩ rfl hn hl.1 hs (lv_room hr) hd ⟨Nat.le_refl _, Nat.le_refl _⟩) hS (fun H1 locs1 hw1 hS1 => hkk hX H1 locs1 la hw1 hS1 hl)
theorem v_mmin {x y : Int32} {index : Nat} (hd : decode cc pc = .ok (.invokestatic index, 3)) (hlink : Cond.methodLink own index Lib.Math.min.name ∈ BIG) (hf : 1 ≤ f) (hr : (st.map fun v => v.category).sum + 13 ≤ n) (q : Nat) (hq : pc + 3 = q) (hkk : V l X f n cc nL own ret G ov wF w q ls (.int (if y < x then y else x) :: st)) : V l X f n cc nL own ret G ov wF w pc ls (.int y :: .int x :: st) := by
  obtain ⟨p, e, s, m, args, below, meth, c⟩ := X
  intro hX H locs la hw hS hl
  subst hq
  exact va_mmin hX.1 hX.2.1 (by rw [hX.2.2.1]; exact hl.1.symm) hX.2.2.2.1 (hX.2.2.2.2.1 _ hlink) (hX.2.2.2.2.1 _ qw_static_min) (hX.2.2.2.2.1 _ qw_init_Math) (hX.2.2.2.2.1 _ qw_code_min) hf hr (Nat.zero_le _) (Nat.zero_le _) hd (hkk hX H locs la hw hS hl)
theorem v_mmax {x y : Int32} {index : Nat} (hd : decode cc pc = .ok (.invokestatic index, 3)) (hlink : Cond.methodLink own index Lib.Math.max.name ∈ BIG) (hf : 1 ≤ f) (hr : (st.map fun v => v.category).sum + 13 ≤ n) (q : Nat) (hq : pc + 3 = q) (hkk : V l X f n cc nL own ret G ov wF w q ls (.int (if x < y then y else x) :: st)) : V l X f n cc nL own ret G ov wF w pc ls (.int y :: .int x :: st) := by
  obtain ⟨p, e, s, m, args, below, meth, c⟩ := X
  intro hX H locs la hw hS hl
  subst hq
  exact va_mmax hX.1 hX.2.1 (by rw [hX.2.2.1]; exact hl.1.symm) hX.2.2.2.1 (hX.2.2.2.2.1 _ hlink) (hX.2.2.2.2.1 _ qw_static_max) (hX.2.2.2.2.1 _ qw_init_Math) (hX.2.2.2.2.1 _ qw_code_max) hf hr (Nat.zero_le _) (Nat.zero_le _) hd (hkk hX H locs la hw hS hl)
theorem v_copyi {k1 k2 N1 N2 : Nat} {a b : Nat → Int32} {w2 : WS} {index : Nat} (hd : decode cc pc = .ok (.invokestatic index, 3)) (hlink : Cond.methodLink own index arraycopyName ∈ BIG) (hf : 1 ≤ f) (hr : (st.map fun v => v.category).sum + (nativeFrameWords "java/lang/System" "arraycopy" 5 + 11) ≤ n) (h1 : k1 < 104) (hc1 : cel G w k1 = ai (gcI G) N1 a) (h2 : k2 < 104) (hc2 : cel G w k2 = ai (gcI G) N2 b) {x y z : Int32} (i j mm : Nat) (hx : x = nI i) (hy : y = nI j) (hz : z = nI mm) (hm1 : i + mm ≤ N1) (hm2 : j + mm ≤ N2) (hN1 : N1 < 2 ^ 31) (hN2 : N2 < 2 ^ 31) (hw2 : ∀ j2, j2 < 104 → cel G w2 j2 = if j2 = k2 then ai (gcI G) N2 (va_cpy a b i j mm) else cel G w j2) (q : Nat) (hq : pc + 3 = q) (hkk : V l X f n cc nL own ret G ov wF w2 q ls (st)) : V l X f n cc nL own ret G ov wF w pc ls (.int z :: .int y :: .ref (ga G k2) :: .int x :: .ref (ga G k1) :: st) := by
  obtain ⟨p, e, s, m, args, below, meth, c⟩ := X
  intro hX H locs la hw hS hl
  subst hq
  subst hx
  subst hy
  subst hz
  have hi : i < 2 ^ 31 := by omega
  have hj : j < 2 ^ 31 := by omega
  have hmm : mm < 2 ^ 31 := by omega
  refine va_copyi (D := gD G) hX.1 hX.2.1 (by rw [hX.2.2.1]; exact hl.1.symm) hX.2.2.2.1 (hX.2.2.2.2.1 _ hlink) (hX.2.2.2.2.1 _ qw_native_copy) (hX.2.2.2.2.1 _ qw_static_copy) (hX.2.2.2.2.1 _ qw_init_System) hX.2.2.2.2.2.1.1 hw (hX.2.2.2.2.2.1.2.2.1.D w) hS k1 k2 0 0 (ty := .int) (wl_at h1 hc1) (wl_at h2 hc2) rfl rfl rfl (nI_pos hi) (nI_pos hj) (nI_pos hmm) (by rw [nI_clamp hi, nI_clamp hmm]; exact hm1) (by rw [nI_clamp hj, nI_clamp hmm]; exact hm2) (fun _ _ => rfl) hf hr hd (fun H1 locs1 hP1 _ hS1 => ?_)
  rw [nI_clamp hi, nI_clamp hj, nI_clamp hmm] at hP1
  refine hkk hX H1 locs1 la ?_ hS1 hl
  have e := wl_set h2 hw2
  unfold ai at e
  rw [e] at hP1
  exact hP1
end VROWS
end
section
theorem va_up_s {α : Type} (f : Nat → α) (k : Nat) (v : α) : va_up f k v k = v := if_pos rfl
theorem va_up_n {α : Type} {f : Nat → α} {k j : Nat} {v : α} (h : j ≠ k) : va_up f k v j = f j := if_neg h
theorem va_up_i {α : Type} (f : Nat → α) (k : Nat) : va_up f k (f k) = f := by
  funext j
  unfold va_up
  split
  · next h => rw [h]
  · rfl
theorem va_up_c {α : Type} (f : Nat → α) {i j : Nat} (h : i ≠ j) (a b : α) : va_up (va_up f i a) j b = va_up (va_up f j b) i a := by
  funext k
  unfold va_up
  by_cases h1 : k = i
  · subst h1
    rw [if_neg h, if_pos rfl, if_pos rfl]
  · rw [if_neg h1, if_neg h1]
theorem ite_c {c : Prop} [Decidable c] {a b a2 b2 : va_E} (h1 : c → a = a2) (h2 : ¬ c → b = b2) : (if c then a else b) = if c then a2 else b2 := by
  by_cases h : c
  · rw [if_pos h, if_pos h, h1 h]
  · rw [if_neg h, if_neg h, h2 h]
theorem h03 : 0 < 3 := by decide
theorem h13 : 1 < 3 := by decide
theorem h23 : 2 < 3 := by decide
theorem h30 : 8 * 3 + 0 < 25 := by decide
theorem h08 : 0 < 8 := by decide
theorem g_nar (b : Bool) : narrow .boolean (.int (b2 b)) = .int (b2 b) := by cases b <;> rfl
theorem g_fit (b : Bool) : fits .boolean (.int (b2 b)) = true := by cases b <;> rfl
theorem sw_out {lo hi : Int} {x : Int32} (hl : -2147483648 ≤ lo) (hh : hi < 2147483648) (h : ∀ k : Int, lo ≤ k → k ≤ hi → ¬ x = Int32.ofInt k) : x.toInt < lo ∨ hi < x.toInt := by
  by_cases h1 : x.toInt < lo
  · exact Or.inl h1
  · by_cases h2 : hi < x.toInt
    · exact Or.inr h2
    · exact absurd (fb_asI x).symm (h x.toInt (by omega) (by omega))
theorem k_par {p : Nat} (h : p < 3) : 1 + p < 104 := by omega
theorem k_wea {p : Nat} (h : p < 3) : 4 + p < 104 := by omega
theorem k_sto {p : Nat} (h : p < 3) : 7 + p < 104 := by omega
theorem k_rou {p : Nat} (h : p < 3) : 10 + p < 104 := by omega
theorem k_ews {p : Nat} (h : p < 3) : 13 + p < 104 := by omega
theorem k_cos {p : Nat} (h : p < 3) : 16 + p < 104 := by omega
theorem k_coa {p c : Nat} (h : p < 3) (hc : c < 4) : 19 + (4 * p + c) < 104 := by omega
theorem k_ewe {p e : Nat} (h : 8 * p + e < 25) : 31 + (8 * p + e) < 104 := by omega
theorem k_fle {p e : Nat} (h : 8 * p + e < 25) : 56 + (8 * p + e) < 104 := by omega
theorem k_she {s : Nat} (h : s < 4) : 84 + s < 104 := by omega
theorem k_num {s : Nat} (h : s < 4) : 88 + s < 104 := by omega
theorem f_par {G : Gl} {par : Nat → Pa} {tp : Tp} {sh : Nat → Sh} {tl : Nat → Int32} {hi : Int32} {M : MS} {p mo sz : Nat} {W S R : Nat → Int32} {C : Nat → Nat → Int32} {E : Nat → Ew} (hp : p < 3) : cel G ((va_up par p (mo, sz, W, S, R, C, E), tp, sh, tl, hi), M) (1 + p) = ob 1 [.int (nI mo), .int (nI sz), .ref (ga G (4 + p)), .ref (ga G (7 + p)), .ref (ga G (10 + p)), .ref (ga G (13 + p)), .ref (ga G (16 + p))] := by
  rw [cel_par G _ hp]
  dsimp only [gP, gS]
  rw [va_up_s]
theorem f_wea {G : Gl} {par : Nat → Pa} {tp : Tp} {sh : Nat → Sh} {tl : Nat → Int32} {hi : Int32} {M : MS} {p mo sz : Nat} {W S R : Nat → Int32} {C : Nat → Nat → Int32} {E : Nat → Ew} (hp : p < 3) : cel G ((va_up par p (mo, sz, W, S, R, C, E), tp, sh, tl, hi), M) (4 + p) = ai (gcI G) 12 W := by
  rw [cel_wea G _ hp]
  dsimp only [gP, gS]
  rw [va_up_s]
theorem f_sto {G : Gl} {par : Nat → Pa} {tp : Tp} {sh : Nat → Sh} {tl : Nat → Int32} {hi : Int32} {M : MS} {p mo sz : Nat} {W S R : Nat → Int32} {C : Nat → Nat → Int32} {E : Nat → Ew} (hp : p < 3) : cel G ((va_up par p (mo, sz, W, S, R, C, E), tp, sh, tl, hi), M) (7 + p) = ai (gcI G) 12 S := by
  rw [cel_sto G _ hp]
  dsimp only [gP, gS]
  rw [va_up_s]
theorem f_rou {G : Gl} {par : Nat → Pa} {tp : Tp} {sh : Nat → Sh} {tl : Nat → Int32} {hi : Int32} {M : MS} {p mo sz : Nat} {W S R : Nat → Int32} {C : Nat → Nat → Int32} {E : Nat → Ew} (hp : p < 3) : cel G ((va_up par p (mo, sz, W, S, R, C, E), tp, sh, tl, hi), M) (10 + p) = ai (gcI G) 12 R := by
  rw [cel_rou G _ hp]
  dsimp only [gP, gS]
  rw [va_up_s]
theorem f_coa {G : Gl} {par : Nat → Pa} {tp : Tp} {sh : Nat → Sh} {tl : Nat → Int32} {hi : Int32} {M : MS} {p mo sz : Nat} {W S R : Nat → Int32} {C : Nat → Nat → Int32} {E : Nat → Ew} {c : Nat} (hp : p < 3) (hc : c < 4) : cel G ((va_up par p (mo, sz, W, S, R, C, E), tp, sh, tl, hi), M) (19 + (4 * p + c)) = ai (gcI G) 12 (C c) := by
  rw [cel_coa G _ hp hc]
  dsimp only [gP, gS]
  rw [va_up_s]
theorem f_ewe {G : Gl} {par : Nat → Pa} {tp : Tp} {sh : Nat → Sh} {tl : Nat → Int32} {hi : Int32} {M : MS} {p mo sz : Nat} {W S R : Nat → Int32} {C : Nat → Nat → Int32} {E : Nat → Ew} {e : Nat} {k f x : Int32} {fl : Nat → Int32} (hp : 8 * p + e < 25) (he : e < 8) : cel G ((va_up par p (mo, sz, W, S, R, C, va_up E e (k, f, x, fl)), tp, sh, tl, hi), M) (31 + (8 * p + e)) = ob 0 [.int k, .int f, .int x, .ref (ga G (56 + (8 * p + e)))] := by
  rw [cel_ewe G _ hp he]
  dsimp only [gP, gS]
  rw [va_up_s]
  dsimp only
  rw [va_up_s]
theorem f_fle {G : Gl} {par : Nat → Pa} {tp : Tp} {sh : Nat → Sh} {tl : Nat → Int32} {hi : Int32} {M : MS} {p mo sz : Nat} {W S R : Nat → Int32} {C : Nat → Nat → Int32} {E : Nat → Ew} {e : Nat} {k f x : Int32} {fl : Nat → Int32} (hp : 8 * p + e < 25) (he : e < 8) : cel G ((va_up par p (mo, sz, W, S, R, C, va_up E e (k, f, x, fl)), tp, sh, tl, hi), M) (56 + (8 * p + e)) = ai (gcI G) 12 fl := by
  rw [cel_fle G _ hp he]
  dsimp only [gP, gS]
  rw [va_up_s]
  dsimp only
  rw [va_up_s]
theorem f0_ewe {G : Gl} {par : Nat → Pa} {tp : Tp} {sh : Nat → Sh} {tl : Nat → Int32} {hi : Int32} {M : MS} {p mo sz : Nat} {W S R : Nat → Int32} {C : Nat → Nat → Int32} {E : Nat → Ew} {e : Nat} (hp : 8 * p + e < 25) (he : e < 8) : cel G ((va_up par p (mo, sz, W, S, R, C, E), tp, sh, tl, hi), M) (31 + (8 * p + e)) = ob 0 [.int (E e).1, .int (E e).2.1, .int (E e).2.2.1, .ref (ga G (56 + (8 * p + e)))] := by
  rw [cel_ewe G _ hp he]
  dsimp only [gP, gS]
  rw [va_up_s]
theorem f0_fle {G : Gl} {par : Nat → Pa} {tp : Tp} {sh : Nat → Sh} {tl : Nat → Int32} {hi : Int32} {M : MS} {p mo sz : Nat} {W S R : Nat → Int32} {C : Nat → Nat → Int32} {E : Nat → Ew} {e : Nat} (hp : 8 * p + e < 25) (he : e < 8) : cel G ((va_up par p (mo, sz, W, S, R, C, E), tp, sh, tl, hi), M) (56 + (8 * p + e)) = ai (gcI G) 12 (E e).2.2.2 := by
  rw [cel_fle G _ hp he]
  dsimp only [gP, gS]
  rw [va_up_s]
theorem f_she {G : Gl} {par : Nat → Pa} {tp : Tp} {sh : Nat → Sh} {tl : Nat → Int32} {hi : Int32} {M : MS} {s : Nat} {sn : Nat → Int64} {zz : Nat} {sb : Int32} (hs : s < 4) : cel G ((par, tp, va_up sh s (sn, zz, sb), tl, hi), M) (84 + s) = ob 2 [.ref (ga G (88 + s)), .int (nI zz), .int sb] := by
  rw [cel_she G _ hs]
  dsimp only [gP, gS]
  rw [va_up_s]
theorem f_num {G : Gl} {par : Nat → Pa} {tp : Tp} {sh : Nat → Sh} {tl : Nat → Int32} {hi : Int32} {M : MS} {s : Nat} {sn : Nat → Int64} {zz : Nat} {sb : Int32} (hs : s < 4) : cel G ((par, tp, va_up sh s (sn, zz, sb), tl, hi), M) (88 + s) = aj (gcJ G) 40 sn := by
  rw [cel_num G _ hs]
  dsimp only [gP, gS]
  rw [va_up_s]
set_option maxHeartbeats 1000000 in
theorem u_mo {G : Gl} {par : Nat → Pa} {tp : Tp} {sh : Nat → Sh} {tl : Nat → Int32} {hi : Int32} {M : MS} {p mo sz : Nat} {W S R : Nat → Int32} {C : Nat → Nat → Int32} {E : Nat → Ew} {mo2 : Nat} (hp : p < 3) : ∀ j, j < 104 → cel G ((va_up par p (mo2, sz, W, S, R, C, E), tp, sh, tl, hi), M) j = if j = 1 + p then ob 1 [.int (nI mo2), .int (nI sz), .ref (ga G (4 + p)), .ref (ga G (7 + p)), .ref (ga G (10 + p)), .ref (ga G (13 + p)), .ref (ga G (16 + p))] else cel G ((va_up par p (mo, sz, W, S, R, C, E), tp, sh, tl, hi), M) j := by
  intro j hj
  by_cases hjk : j = 1 + p
  · rw [if_pos hjk, hjk]
    exact f_par hp
  · rw [if_neg hjk]
    unfold cel
    refine ite_c (fun h_obj => ?_) (fun h_obj => ?_)
    · first | rfl | (exfalso; omega)
    refine ite_c (fun h_par => ?_) (fun h_par => ?_)
    · first | (rfl; done) | (dsimp only [gP, gS]; unfold va_up; split <;> first | (rfl; done) | (exfalso; omega))
    refine ite_c (fun h_wea => ?_) (fun h_wea => ?_)
    · first | (rfl; done) | (dsimp only [gP, gS]; unfold va_up; split <;> first | (rfl; done) | (exfalso; omega))
    refine ite_c (fun h_sto => ?_) (fun h_sto => ?_)
    · first | (rfl; done) | (dsimp only [gP, gS]; unfold va_up; split <;> first | (rfl; done) | (exfalso; omega))
    refine ite_c (fun h_rou => ?_) (fun h_rou => ?_)
    · first | (rfl; done) | (dsimp only [gP, gS]; unfold va_up; split <;> first | (rfl; done) | (exfalso; omega))
    refine ite_c (fun h_ews => ?_) (fun h_ews => ?_)
    · first | rfl | (exfalso; omega)
    refine ite_c (fun h_cos => ?_) (fun h_cos => ?_)
    · first | rfl | (exfalso; omega)
    refine ite_c (fun h_coa => ?_) (fun h_coa => ?_)
    · first | (rfl; done) | (dsimp only [gP, gS]; unfold va_up; split <;> first | (rfl; done) | (exfalso; omega))
    refine ite_c (fun h_ewe => ?_) (fun h_ewe => ?_)
    · first | (rfl; done) | (dsimp only [gP, gS]; unfold va_up; split <;> first | (rfl; done) | (exfalso; omega))
    refine ite_c (fun h_fle => ?_) (fun h_fle => ?_)
    · first | (rfl; done) | (dsimp only [gP, gS]; unfold va_up; split <;> first | (rfl; done) | (exfalso; omega))
    refine ite_c (fun h_tap => ?_) (fun h_tap => ?_)
    · first | rfl | (exfalso; omega)
    refine ite_c (fun h_byt => ?_) (fun h_byt => ?_)
    · first | rfl | (exfalso; omega)
    refine ite_c (fun h_shs => ?_) (fun h_shs => ?_)
    · first | rfl | (exfalso; omega)
    refine ite_c (fun h_she => ?_) (fun h_she => ?_)
    · first | (rfl; done) | (dsimp only [gP, gS]; unfold va_up; split <;> first | (rfl; done) | (exfalso; omega))
    refine ite_c (fun h_num => ?_) (fun h_num => ?_)
    · first | (rfl; done) | (dsimp only [gP, gS]; unfold va_up; split <;> first | (rfl; done) | (exfalso; omega))
    refine ite_c (fun h_tol => ?_) (fun h_tol => ?_)
    · first | rfl | (exfalso; omega)
    refine ite_c (fun h_mod => ?_) (fun h_mod => ?_)
    · first | rfl | (exfalso; omega)
    refine ite_c (fun h_ms => ?_) (fun h_ms => ?_)
    · first | rfl | (exfalso; omega)
    refine ite_c (fun h_mk => ?_) (fun h_mk => ?_)
    · first | rfl | (exfalso; omega)
    refine ite_c (fun h_mo => ?_) (fun h_mo => ?_)
    · first | rfl | (exfalso; omega)
    refine ite_c (fun h_ma => ?_) (fun h_ma => ?_)
    · first | rfl | (exfalso; omega)
    refine ite_c (fun h_mf => ?_) (fun h_mf => ?_)
    · first | rfl | (exfalso; omega)
    refine ite_c (fun h_mt => ?_) (fun h_mt => ?_)
    · first | rfl | (exfalso; omega)
    refine ite_c (fun h_mb => ?_) (fun h_mb => ?_)
    · first | rfl | (exfalso; omega)
    refine ite_c (fun h_mz => ?_) (fun h_mz => ?_)
    · first | rfl | (exfalso; omega)
    refine ite_c (fun h_mn => ?_) (fun h_mn => ?_)
    · first | rfl | (exfalso; omega)
    refine ite_c (fun h_mv => ?_) (fun h_mv => ?_)
    · first | rfl | (exfalso; omega)
    rfl
set_option maxHeartbeats 1000000 in
theorem u_sz {G : Gl} {par : Nat → Pa} {tp : Tp} {sh : Nat → Sh} {tl : Nat → Int32} {hi : Int32} {M : MS} {p mo sz : Nat} {W S R : Nat → Int32} {C : Nat → Nat → Int32} {E : Nat → Ew} {sz2 : Nat} (hp : p < 3) : ∀ j, j < 104 → cel G ((va_up par p (mo, sz2, W, S, R, C, E), tp, sh, tl, hi), M) j = if j = 1 + p then ob 1 [.int (nI mo), .int (nI sz2), .ref (ga G (4 + p)), .ref (ga G (7 + p)), .ref (ga G (10 + p)), .ref (ga G (13 + p)), .ref (ga G (16 + p))] else cel G ((va_up par p (mo, sz, W, S, R, C, E), tp, sh, tl, hi), M) j := by
  intro j hj
  by_cases hjk : j = 1 + p
  · rw [if_pos hjk, hjk]
    exact f_par hp
  · rw [if_neg hjk]
    unfold cel
    refine ite_c (fun h_obj => ?_) (fun h_obj => ?_)
    · first | rfl | (exfalso; omega)
    refine ite_c (fun h_par => ?_) (fun h_par => ?_)
    · first | (rfl; done) | (dsimp only [gP, gS]; unfold va_up; split <;> first | (rfl; done) | (exfalso; omega))
    refine ite_c (fun h_wea => ?_) (fun h_wea => ?_)
    · first | (rfl; done) | (dsimp only [gP, gS]; unfold va_up; split <;> first | (rfl; done) | (exfalso; omega))
    refine ite_c (fun h_sto => ?_) (fun h_sto => ?_)
    · first | (rfl; done) | (dsimp only [gP, gS]; unfold va_up; split <;> first | (rfl; done) | (exfalso; omega))
    refine ite_c (fun h_rou => ?_) (fun h_rou => ?_)
    · first | (rfl; done) | (dsimp only [gP, gS]; unfold va_up; split <;> first | (rfl; done) | (exfalso; omega))
    refine ite_c (fun h_ews => ?_) (fun h_ews => ?_)
    · first | rfl | (exfalso; omega)
    refine ite_c (fun h_cos => ?_) (fun h_cos => ?_)
    · first | rfl | (exfalso; omega)
    refine ite_c (fun h_coa => ?_) (fun h_coa => ?_)
    · first | (rfl; done) | (dsimp only [gP, gS]; unfold va_up; split <;> first | (rfl; done) | (exfalso; omega))
    refine ite_c (fun h_ewe => ?_) (fun h_ewe => ?_)
    · first | (rfl; done) | (dsimp only [gP, gS]; unfold va_up; split <;> first | (rfl; done) | (exfalso; omega))
    refine ite_c (fun h_fle => ?_) (fun h_fle => ?_)
    · first | (rfl; done) | (dsimp only [gP, gS]; unfold va_up; split <;> first | (rfl; done) | (exfalso; omega))
    refine ite_c (fun h_tap => ?_) (fun h_tap => ?_)
    · first | rfl | (exfalso; omega)
    refine ite_c (fun h_byt => ?_) (fun h_byt => ?_)
    · first | rfl | (exfalso; omega)
    refine ite_c (fun h_shs => ?_) (fun h_shs => ?_)
    · first | rfl | (exfalso; omega)
    refine ite_c (fun h_she => ?_) (fun h_she => ?_)
    · first | (rfl; done) | (dsimp only [gP, gS]; unfold va_up; split <;> first | (rfl; done) | (exfalso; omega))
    refine ite_c (fun h_num => ?_) (fun h_num => ?_)
    · first | (rfl; done) | (dsimp only [gP, gS]; unfold va_up; split <;> first | (rfl; done) | (exfalso; omega))
    refine ite_c (fun h_tol => ?_) (fun h_tol => ?_)
    · first | rfl | (exfalso; omega)
    refine ite_c (fun h_mod => ?_) (fun h_mod => ?_)
    · first | rfl | (exfalso; omega)
    refine ite_c (fun h_ms => ?_) (fun h_ms => ?_)
    · first | rfl | (exfalso; omega)
    refine ite_c (fun h_mk => ?_) (fun h_mk => ?_)
    · first | rfl | (exfalso; omega)
    refine ite_c (fun h_mo => ?_) (fun h_mo => ?_)
    · first | rfl | (exfalso; omega)
    refine ite_c (fun h_ma => ?_) (fun h_ma => ?_)
    · first | rfl | (exfalso; omega)
    refine ite_c (fun h_mf => ?_) (fun h_mf => ?_)
    · first | rfl | (exfalso; omega)
    refine ite_c (fun h_mt => ?_) (fun h_mt => ?_)
    · first | rfl | (exfalso; omega)
    refine ite_c (fun h_mb => ?_) (fun h_mb => ?_)
    · first | rfl | (exfalso; omega)
    refine ite_c (fun h_mz => ?_) (fun h_mz => ?_)
    · first | rfl | (exfalso; omega)
    refine ite_c (fun h_mn => ?_) (fun h_mn => ?_)
    · first | rfl | (exfalso; omega)
    refine ite_c (fun h_mv => ?_) (fun h_mv => ?_)
    · first | rfl | (exfalso; omega)
    rfl
set_option maxHeartbeats 1000000 in
theorem u_W {G : Gl} {par : Nat → Pa} {tp : Tp} {sh : Nat → Sh} {tl : Nat → Int32} {hi : Int32} {M : MS} {p mo sz : Nat} {W S R : Nat → Int32} {C : Nat → Nat → Int32} {E : Nat → Ew} {W2 : Nat → Int32} (hp : p < 3) : ∀ j, j < 104 → cel G ((va_up par p (mo, sz, W2, S, R, C, E), tp, sh, tl, hi), M) j = if j = 4 + p then ai (gcI G) 12 W2 else cel G ((va_up par p (mo, sz, W, S, R, C, E), tp, sh, tl, hi), M) j := by
  intro j hj
  by_cases hjk : j = 4 + p
  · rw [if_pos hjk, hjk]
    exact f_wea hp
  · rw [if_neg hjk]
    unfold cel
    refine ite_c (fun h_obj => ?_) (fun h_obj => ?_)
    · first | rfl | (exfalso; omega)
    refine ite_c (fun h_par => ?_) (fun h_par => ?_)
    · first | (rfl; done) | (dsimp only [gP, gS]; unfold va_up; split <;> first | (rfl; done) | (exfalso; omega))
    refine ite_c (fun h_wea => ?_) (fun h_wea => ?_)
    · first | (rfl; done) | (dsimp only [gP, gS]; unfold va_up; split <;> first | (rfl; done) | (exfalso; omega))
    refine ite_c (fun h_sto => ?_) (fun h_sto => ?_)
    · first | (rfl; done) | (dsimp only [gP, gS]; unfold va_up; split <;> first | (rfl; done) | (exfalso; omega))
    refine ite_c (fun h_rou => ?_) (fun h_rou => ?_)
    · first | (rfl; done) | (dsimp only [gP, gS]; unfold va_up; split <;> first | (rfl; done) | (exfalso; omega))
    refine ite_c (fun h_ews => ?_) (fun h_ews => ?_)
    · first | rfl | (exfalso; omega)
    refine ite_c (fun h_cos => ?_) (fun h_cos => ?_)
    · first | rfl | (exfalso; omega)
    refine ite_c (fun h_coa => ?_) (fun h_coa => ?_)
    · first | (rfl; done) | (dsimp only [gP, gS]; unfold va_up; split <;> first | (rfl; done) | (exfalso; omega))
    refine ite_c (fun h_ewe => ?_) (fun h_ewe => ?_)
    · first | (rfl; done) | (dsimp only [gP, gS]; unfold va_up; split <;> first | (rfl; done) | (exfalso; omega))
    refine ite_c (fun h_fle => ?_) (fun h_fle => ?_)
    · first | (rfl; done) | (dsimp only [gP, gS]; unfold va_up; split <;> first | (rfl; done) | (exfalso; omega))
    refine ite_c (fun h_tap => ?_) (fun h_tap => ?_)
    · first | rfl | (exfalso; omega)
    refine ite_c (fun h_byt => ?_) (fun h_byt => ?_)
    · first | rfl | (exfalso; omega)
    refine ite_c (fun h_shs => ?_) (fun h_shs => ?_)
    · first | rfl | (exfalso; omega)
    refine ite_c (fun h_she => ?_) (fun h_she => ?_)
    · first | (rfl; done) | (dsimp only [gP, gS]; unfold va_up; split <;> first | (rfl; done) | (exfalso; omega))
    refine ite_c (fun h_num => ?_) (fun h_num => ?_)
    · first | (rfl; done) | (dsimp only [gP, gS]; unfold va_up; split <;> first | (rfl; done) | (exfalso; omega))
    refine ite_c (fun h_tol => ?_) (fun h_tol => ?_)
    · first | rfl | (exfalso; omega)
    refine ite_c (fun h_mod => ?_) (fun h_mod => ?_)
    · first | rfl | (exfalso; omega)
    refine ite_c (fun h_ms => ?_) (fun h_ms => ?_)
    · first | rfl | (exfalso; omega)
    refine ite_c (fun h_mk => ?_) (fun h_mk => ?_)
    · first | rfl | (exfalso; omega)
    refine ite_c (fun h_mo => ?_) (fun h_mo => ?_)
    · first | rfl | (exfalso; omega)
    refine ite_c (fun h_ma => ?_) (fun h_ma => ?_)
    · first | rfl | (exfalso; omega)
    refine ite_c (fun h_mf => ?_) (fun h_mf => ?_)
    · first | rfl | (exfalso; omega)
    refine ite_c (fun h_mt => ?_) (fun h_mt => ?_)
    · first | rfl | (exfalso; omega)
    refine ite_c (fun h_mb => ?_) (fun h_mb => ?_)
    · first | rfl | (exfalso; omega)
    refine ite_c (fun h_mz => ?_) (fun h_mz => ?_)
    · first | rfl | (exfalso; omega)
    refine ite_c (fun h_mn => ?_) (fun h_mn => ?_)
    · first | rfl | (exfalso; omega)
    refine ite_c (fun h_mv => ?_) (fun h_mv => ?_)
    · first | rfl | (exfalso; omega)
    rfl
set_option maxHeartbeats 1000000 in
theorem u_S {G : Gl} {par : Nat → Pa} {tp : Tp} {sh : Nat → Sh} {tl : Nat → Int32} {hi : Int32} {M : MS} {p mo sz : Nat} {W S R : Nat → Int32} {C : Nat → Nat → Int32} {E : Nat → Ew} {S2 : Nat → Int32} (hp : p < 3) : ∀ j, j < 104 → cel G ((va_up par p (mo, sz, W, S2, R, C, E), tp, sh, tl, hi), M) j = if j = 7 + p then ai (gcI G) 12 S2 else cel G ((va_up par p (mo, sz, W, S, R, C, E), tp, sh, tl, hi), M) j := by
  intro j hj
  by_cases hjk : j = 7 + p
  · rw [if_pos hjk, hjk]
    exact f_sto hp
  · rw [if_neg hjk]
    unfold cel
    refine ite_c (fun h_obj => ?_) (fun h_obj => ?_)
    · first | rfl | (exfalso; omega)
    refine ite_c (fun h_par => ?_) (fun h_par => ?_)
    · first | (rfl; done) | (dsimp only [gP, gS]; unfold va_up; split <;> first | (rfl; done) | (exfalso; omega))
    refine ite_c (fun h_wea => ?_) (fun h_wea => ?_)
    · first | (rfl; done) | (dsimp only [gP, gS]; unfold va_up; split <;> first | (rfl; done) | (exfalso; omega))
    refine ite_c (fun h_sto => ?_) (fun h_sto => ?_)
    · first | (rfl; done) | (dsimp only [gP, gS]; unfold va_up; split <;> first | (rfl; done) | (exfalso; omega))
    refine ite_c (fun h_rou => ?_) (fun h_rou => ?_)
    · first | (rfl; done) | (dsimp only [gP, gS]; unfold va_up; split <;> first | (rfl; done) | (exfalso; omega))
    refine ite_c (fun h_ews => ?_) (fun h_ews => ?_)
    · first | rfl | (exfalso; omega)
    refine ite_c (fun h_cos => ?_) (fun h_cos => ?_)
    · first | rfl | (exfalso; omega)
    refine ite_c (fun h_coa => ?_) (fun h_coa => ?_)
    · first | (rfl; done) | (dsimp only [gP, gS]; unfold va_up; split <;> first | (rfl; done) | (exfalso; omega))
    refine ite_c (fun h_ewe => ?_) (fun h_ewe => ?_)
    · first | (rfl; done) | (dsimp only [gP, gS]; unfold va_up; split <;> first | (rfl; done) | (exfalso; omega))
    refine ite_c (fun h_fle => ?_) (fun h_fle => ?_)
    · first | (rfl; done) | (dsimp only [gP, gS]; unfold va_up; split <;> first | (rfl; done) | (exfalso; omega))
    refine ite_c (fun h_tap => ?_) (fun h_tap => ?_)
    · first | rfl | (exfalso; omega)
    refine ite_c (fun h_byt => ?_) (fun h_byt => ?_)
    · first | rfl | (exfalso; omega)
    refine ite_c (fun h_shs => ?_) (fun h_shs => ?_)
    · first | rfl | (exfalso; omega)
    refine ite_c (fun h_she => ?_) (fun h_she => ?_)
    · first | (rfl; done) | (dsimp only [gP, gS]; unfold va_up; split <;> first | (rfl; done) | (exfalso; omega))
    refine ite_c (fun h_num => ?_) (fun h_num => ?_)
    · first | (rfl; done) | (dsimp only [gP, gS]; unfold va_up; split <;> first | (rfl; done) | (exfalso; omega))
    refine ite_c (fun h_tol => ?_) (fun h_tol => ?_)
    · first | rfl | (exfalso; omega)
    refine ite_c (fun h_mod => ?_) (fun h_mod => ?_)
    · first | rfl | (exfalso; omega)
    refine ite_c (fun h_ms => ?_) (fun h_ms => ?_)
    · first | rfl | (exfalso; omega)
    refine ite_c (fun h_mk => ?_) (fun h_mk => ?_)
    · first | rfl | (exfalso; omega)
    refine ite_c (fun h_mo => ?_) (fun h_mo => ?_)
    · first | rfl | (exfalso; omega)
    refine ite_c (fun h_ma => ?_) (fun h_ma => ?_)
    · first | rfl | (exfalso; omega)
    refine ite_c (fun h_mf => ?_) (fun h_mf => ?_)
    · first | rfl | (exfalso; omega)
    refine ite_c (fun h_mt => ?_) (fun h_mt => ?_)
    · first | rfl | (exfalso; omega)
    refine ite_c (fun h_mb => ?_) (fun h_mb => ?_)
    · first | rfl | (exfalso; omega)
    refine ite_c (fun h_mz => ?_) (fun h_mz => ?_)
    · first | rfl | (exfalso; omega)
    refine ite_c (fun h_mn => ?_) (fun h_mn => ?_)
    · first | rfl | (exfalso; omega)
    refine ite_c (fun h_mv => ?_) (fun h_mv => ?_)
    · first | rfl | (exfalso; omega)
    rfl
set_option maxHeartbeats 1000000 in
theorem u_R {G : Gl} {par : Nat → Pa} {tp : Tp} {sh : Nat → Sh} {tl : Nat → Int32} {hi : Int32} {M : MS} {p mo sz : Nat} {W S R : Nat → Int32} {C : Nat → Nat → Int32} {E : Nat → Ew} {R2 : Nat → Int32} (hp : p < 3) : ∀ j, j < 104 → cel G ((va_up par p (mo, sz, W, S, R2, C, E), tp, sh, tl, hi), M) j = if j = 10 + p then ai (gcI G) 12 R2 else cel G ((va_up par p (mo, sz, W, S, R, C, E), tp, sh, tl, hi), M) j := by
  intro j hj
  by_cases hjk : j = 10 + p
  · rw [if_pos hjk, hjk]
    exact f_rou hp
  · rw [if_neg hjk]
    unfold cel
    refine ite_c (fun h_obj => ?_) (fun h_obj => ?_)
    · first | rfl | (exfalso; omega)
    refine ite_c (fun h_par => ?_) (fun h_par => ?_)
    · first | (rfl; done) | (dsimp only [gP, gS]; unfold va_up; split <;> first | (rfl; done) | (exfalso; omega))
    refine ite_c (fun h_wea => ?_) (fun h_wea => ?_)
    · first | (rfl; done) | (dsimp only [gP, gS]; unfold va_up; split <;> first | (rfl; done) | (exfalso; omega))
    refine ite_c (fun h_sto => ?_) (fun h_sto => ?_)
    · first | (rfl; done) | (dsimp only [gP, gS]; unfold va_up; split <;> first | (rfl; done) | (exfalso; omega))
    refine ite_c (fun h_rou => ?_) (fun h_rou => ?_)
    · first | (rfl; done) | (dsimp only [gP, gS]; unfold va_up; split <;> first | (rfl; done) | (exfalso; omega))
    refine ite_c (fun h_ews => ?_) (fun h_ews => ?_)
    · first | rfl | (exfalso; omega)
    refine ite_c (fun h_cos => ?_) (fun h_cos => ?_)
    · first | rfl | (exfalso; omega)
    refine ite_c (fun h_coa => ?_) (fun h_coa => ?_)
    · first | (rfl; done) | (dsimp only [gP, gS]; unfold va_up; split <;> first | (rfl; done) | (exfalso; omega))
    refine ite_c (fun h_ewe => ?_) (fun h_ewe => ?_)
    · first | (rfl; done) | (dsimp only [gP, gS]; unfold va_up; split <;> first | (rfl; done) | (exfalso; omega))
    refine ite_c (fun h_fle => ?_) (fun h_fle => ?_)
    · first | (rfl; done) | (dsimp only [gP, gS]; unfold va_up; split <;> first | (rfl; done) | (exfalso; omega))
    refine ite_c (fun h_tap => ?_) (fun h_tap => ?_)
    · first | rfl | (exfalso; omega)
    refine ite_c (fun h_byt => ?_) (fun h_byt => ?_)
    · first | rfl | (exfalso; omega)
    refine ite_c (fun h_shs => ?_) (fun h_shs => ?_)
    · first | rfl | (exfalso; omega)
    refine ite_c (fun h_she => ?_) (fun h_she => ?_)
    · first | (rfl; done) | (dsimp only [gP, gS]; unfold va_up; split <;> first | (rfl; done) | (exfalso; omega))
    refine ite_c (fun h_num => ?_) (fun h_num => ?_)
    · first | (rfl; done) | (dsimp only [gP, gS]; unfold va_up; split <;> first | (rfl; done) | (exfalso; omega))
    refine ite_c (fun h_tol => ?_) (fun h_tol => ?_)
    · first | rfl | (exfalso; omega)
    refine ite_c (fun h_mod => ?_) (fun h_mod => ?_)
    · first | rfl | (exfalso; omega)
    refine ite_c (fun h_ms => ?_) (fun h_ms => ?_)
    · first | rfl | (exfalso; omega)
    refine ite_c (fun h_mk => ?_) (fun h_mk => ?_)
    · first | rfl | (exfalso; omega)
    refine ite_c (fun h_mo => ?_) (fun h_mo => ?_)
    · first | rfl | (exfalso; omega)
    refine ite_c (fun h_ma => ?_) (fun h_ma => ?_)
    · first | rfl | (exfalso; omega)
    refine ite_c (fun h_mf => ?_) (fun h_mf => ?_)
    · first | rfl | (exfalso; omega)
    refine ite_c (fun h_mt => ?_) (fun h_mt => ?_)
    · first | rfl | (exfalso; omega)
    refine ite_c (fun h_mb => ?_) (fun h_mb => ?_)
    · first | rfl | (exfalso; omega)
    refine ite_c (fun h_mz => ?_) (fun h_mz => ?_)
    · first | rfl | (exfalso; omega)
    refine ite_c (fun h_mn => ?_) (fun h_mn => ?_)
    · first | rfl | (exfalso; omega)
    refine ite_c (fun h_mv => ?_) (fun h_mv => ?_)
    · first | rfl | (exfalso; omega)
    rfl
set_option maxHeartbeats 1000000 in
theorem u_C {G : Gl} {par : Nat → Pa} {tp : Tp} {sh : Nat → Sh} {tl : Nat → Int32} {hi : Int32} {M : MS} {p mo sz : Nat} {W S R : Nat → Int32} {C : Nat → Nat → Int32} {E : Nat → Ew} {c : Nat} {D2 : Nat → Int32} (hp : p < 3) (hc : c < 4) : ∀ j, j < 104 → cel G ((va_up par p (mo, sz, W, S, R, va_up C c D2, E), tp, sh, tl, hi), M) j = if j = 19 + (4 * p + c) then ai (gcI G) 12 D2 else cel G ((va_up par p (mo, sz, W, S, R, C, E), tp, sh, tl, hi), M) j := by
  intro j hj
  by_cases hjk : j = 19 + (4 * p + c)
  · rw [if_pos hjk, hjk]
    exact (f_coa hp hc).trans (by rw [va_up_s])
  · rw [if_neg hjk]
    unfold cel
    refine ite_c (fun h_obj => ?_) (fun h_obj => ?_)
    · first | rfl | (exfalso; omega)
    refine ite_c (fun h_par => ?_) (fun h_par => ?_)
    · first | (rfl; done) | (dsimp only [gP, gS]; unfold va_up; split <;> first | (rfl; done) | (exfalso; omega))
    refine ite_c (fun h_wea => ?_) (fun h_wea => ?_)
    · first | (rfl; done) | (dsimp only [gP, gS]; unfold va_up; split <;> first | (rfl; done) | (exfalso; omega))
    refine ite_c (fun h_sto => ?_) (fun h_sto => ?_)
    · first | (rfl; done) | (dsimp only [gP, gS]; unfold va_up; split <;> first | (rfl; done) | (exfalso; omega))
    refine ite_c (fun h_rou => ?_) (fun h_rou => ?_)
    · first | (rfl; done) | (dsimp only [gP, gS]; unfold va_up; split <;> first | (rfl; done) | (exfalso; omega))
    refine ite_c (fun h_ews => ?_) (fun h_ews => ?_)
    · first | rfl | (exfalso; omega)
    refine ite_c (fun h_cos => ?_) (fun h_cos => ?_)
    · first | rfl | (exfalso; omega)
    refine ite_c (fun h_coa => ?_) (fun h_coa => ?_)
    · have q0 : ¬ ((j - 19) / 4 = p ∧ (j - 19) % 4 = c) := by omega
      dsimp only [gP, gS]
      by_cases q1 : (j - 19) / 4 = p
      · have q2 : (j - 19) % 4 ≠ c := fun z => q0 ⟨q1, z⟩
        rw [q1, va_up_s, va_up_s]
        show ai _ _ (va_up C c D2 _) = _
        rw [va_up_n q2]
      · rw [va_up_n q1, va_up_n q1]
    refine ite_c (fun h_ewe => ?_) (fun h_ewe => ?_)
    · first | (rfl; done) | (dsimp only [gP, gS]; unfold va_up; split <;> first | (rfl; done) | (exfalso; omega))
    refine ite_c (fun h_fle => ?_) (fun h_fle => ?_)
    · first | (rfl; done) | (dsimp only [gP, gS]; unfold va_up; split <;> first | (rfl; done) | (exfalso; omega))
    refine ite_c (fun h_tap => ?_) (fun h_tap => ?_)
    · first | rfl | (exfalso; omega)
    refine ite_c (fun h_byt => ?_) (fun h_byt => ?_)
    · first | rfl | (exfalso; omega)
    refine ite_c (fun h_shs => ?_) (fun h_shs => ?_)
    · first | rfl | (exfalso; omega)
    refine ite_c (fun h_she => ?_) (fun h_she => ?_)
    · first | (rfl; done) | (dsimp only [gP, gS]; unfold va_up; split <;> first | (rfl; done) | (exfalso; omega))
    refine ite_c (fun h_num => ?_) (fun h_num => ?_)
    · first | (rfl; done) | (dsimp only [gP, gS]; unfold va_up; split <;> first | (rfl; done) | (exfalso; omega))
    refine ite_c (fun h_tol => ?_) (fun h_tol => ?_)
    · first | rfl | (exfalso; omega)
    refine ite_c (fun h_mod => ?_) (fun h_mod => ?_)
    · first | rfl | (exfalso; omega)
    refine ite_c (fun h_ms => ?_) (fun h_ms => ?_)
    · first | rfl | (exfalso; omega)
    refine ite_c (fun h_mk => ?_) (fun h_mk => ?_)
    · first | rfl | (exfalso; omega)
    refine ite_c (fun h_mo => ?_) (fun h_mo => ?_)
    · first | rfl | (exfalso; omega)
    refine ite_c (fun h_ma => ?_) (fun h_ma => ?_)
    · first | rfl | (exfalso; omega)
    refine ite_c (fun h_mf => ?_) (fun h_mf => ?_)
    · first | rfl | (exfalso; omega)
    refine ite_c (fun h_mt => ?_) (fun h_mt => ?_)
    · first | rfl | (exfalso; omega)
    refine ite_c (fun h_mb => ?_) (fun h_mb => ?_)
    · first | rfl | (exfalso; omega)
    refine ite_c (fun h_mz => ?_) (fun h_mz => ?_)
    · first | rfl | (exfalso; omega)
    refine ite_c (fun h_mn => ?_) (fun h_mn => ?_)
    · first | rfl | (exfalso; omega)
    refine ite_c (fun h_mv => ?_) (fun h_mv => ?_)
    · first | rfl | (exfalso; omega)
    rfl
set_option maxHeartbeats 1000000 in
theorem u_E {G : Gl} {par : Nat → Pa} {tp : Tp} {sh : Nat → Sh} {tl : Nat → Int32} {hi : Int32} {M : MS} {p mo sz : Nat} {W S R : Nat → Int32} {C : Nat → Nat → Int32} {E : Nat → Ew} {e : Nat} {k f x k2 f2 x2 : Int32} {fl : Nat → Int32} (hp : 8 * p + e < 25) (he : e < 8) : ∀ j, j < 104 → cel G ((va_up par p (mo, sz, W, S, R, C, va_up E e (k2, f2, x2, fl)), tp, sh, tl, hi), M) j = if j = 31 + (8 * p + e) then ob 0 [.int k2, .int f2, .int x2, .ref (ga G (56 + (8 * p + e)))] else cel G ((va_up par p (mo, sz, W, S, R, C, va_up E e (k, f, x, fl)), tp, sh, tl, hi), M) j := by
  intro j hj
  by_cases hjk : j = 31 + (8 * p + e)
  · rw [if_pos hjk, hjk]
    exact f_ewe hp he
  · rw [if_neg hjk]
    unfold cel
    refine ite_c (fun h_obj => ?_) (fun h_obj => ?_)
    · first | rfl | (exfalso; omega)
    refine ite_c (fun h_par => ?_) (fun h_par => ?_)
    · first | (rfl; done) | (dsimp only [gP, gS]; unfold va_up; split <;> first | (rfl; done) | (exfalso; omega))
    refine ite_c (fun h_wea => ?_) (fun h_wea => ?_)
    · first | (rfl; done) | (dsimp only [gP, gS]; unfold va_up; split <;> first | (rfl; done) | (exfalso; omega))
    refine ite_c (fun h_sto => ?_) (fun h_sto => ?_)
    · first | (rfl; done) | (dsimp only [gP, gS]; unfold va_up; split <;> first | (rfl; done) | (exfalso; omega))
    refine ite_c (fun h_rou => ?_) (fun h_rou => ?_)
    · first | (rfl; done) | (dsimp only [gP, gS]; unfold va_up; split <;> first | (rfl; done) | (exfalso; omega))
    refine ite_c (fun h_ews => ?_) (fun h_ews => ?_)
    · first | rfl | (exfalso; omega)
    refine ite_c (fun h_cos => ?_) (fun h_cos => ?_)
    · first | rfl | (exfalso; omega)
    refine ite_c (fun h_coa => ?_) (fun h_coa => ?_)
    · first | (rfl; done) | (dsimp only [gP, gS]; unfold va_up; split <;> first | (rfl; done) | (exfalso; omega))
    refine ite_c (fun h_ewe => ?_) (fun h_ewe => ?_)
    · dsimp only [gP, gS]
      by_cases q1 : (j - 31) / 8 = p
      · rw [q1, va_up_s, va_up_s]
        dsimp only
        by_cases q2 : (j - 31) % 8 = e
        · exact absurd (show j = 31 + (8 * p + e) by omega) hjk
        · rw [va_up_n q2, va_up_n q2]
      · rw [va_up_n q1, va_up_n q1]
    refine ite_c (fun h_fle => ?_) (fun h_fle => ?_)
    · dsimp only [gP, gS]
      by_cases q1 : (j - 56) / 8 = p
      · rw [q1, va_up_s, va_up_s]
        dsimp only
        by_cases q2 : (j - 56) % 8 = e
        · rw [q2, va_up_s, va_up_s]
        · rw [va_up_n q2, va_up_n q2]
      · rw [va_up_n q1, va_up_n q1]
    refine ite_c (fun h_tap => ?_) (fun h_tap => ?_)
    · first | rfl | (exfalso; omega)
    refine ite_c (fun h_byt => ?_) (fun h_byt => ?_)
    · first | rfl | (exfalso; omega)
    refine ite_c (fun h_shs => ?_) (fun h_shs => ?_)
    · first | rfl | (exfalso; omega)
    refine ite_c (fun h_she => ?_) (fun h_she => ?_)
    · first | (rfl; done) | (dsimp only [gP, gS]; unfold va_up; split <;> first | (rfl; done) | (exfalso; omega))
    refine ite_c (fun h_num => ?_) (fun h_num => ?_)
    · first | (rfl; done) | (dsimp only [gP, gS]; unfold va_up; split <;> first | (rfl; done) | (exfalso; omega))
    refine ite_c (fun h_tol => ?_) (fun h_tol => ?_)
    · first | rfl | (exfalso; omega)
    refine ite_c (fun h_mod => ?_) (fun h_mod => ?_)
    · first | rfl | (exfalso; omega)
    refine ite_c (fun h_ms => ?_) (fun h_ms => ?_)
    · first | rfl | (exfalso; omega)
    refine ite_c (fun h_mk => ?_) (fun h_mk => ?_)
    · first | rfl | (exfalso; omega)
    refine ite_c (fun h_mo => ?_) (fun h_mo => ?_)
    · first | rfl | (exfalso; omega)
    refine ite_c (fun h_ma => ?_) (fun h_ma => ?_)
    · first | rfl | (exfalso; omega)
    refine ite_c (fun h_mf => ?_) (fun h_mf => ?_)
    · first | rfl | (exfalso; omega)
    refine ite_c (fun h_mt => ?_) (fun h_mt => ?_)
    · first | rfl | (exfalso; omega)
    refine ite_c (fun h_mb => ?_) (fun h_mb => ?_)
    · first | rfl | (exfalso; omega)
    refine ite_c (fun h_mz => ?_) (fun h_mz => ?_)
    · first | rfl | (exfalso; omega)
    refine ite_c (fun h_mn => ?_) (fun h_mn => ?_)
    · first | rfl | (exfalso; omega)
    refine ite_c (fun h_mv => ?_) (fun h_mv => ?_)
    · first | rfl | (exfalso; omega)
    rfl
set_option maxHeartbeats 1000000 in
theorem u_fl {G : Gl} {par : Nat → Pa} {tp : Tp} {sh : Nat → Sh} {tl : Nat → Int32} {hi : Int32} {M : MS} {p mo sz : Nat} {W S R : Nat → Int32} {C : Nat → Nat → Int32} {E : Nat → Ew} {e : Nat} {k f x : Int32} {fl fl2 : Nat → Int32} (hp : 8 * p + e < 25) (he : e < 8) : ∀ j, j < 104 → cel G ((va_up par p (mo, sz, W, S, R, C, va_up E e (k, f, x, fl2)), tp, sh, tl, hi), M) j = if j = 56 + (8 * p + e) then ai (gcI G) 12 fl2 else cel G ((va_up par p (mo, sz, W, S, R, C, va_up E e (k, f, x, fl)), tp, sh, tl, hi), M) j := by
  intro j hj
  by_cases hjk : j = 56 + (8 * p + e)
  · rw [if_pos hjk, hjk]
    exact f_fle hp he
  · rw [if_neg hjk]
    unfold cel
    refine ite_c (fun h_obj => ?_) (fun h_obj => ?_)
    · first | rfl | (exfalso; omega)
    refine ite_c (fun h_par => ?_) (fun h_par => ?_)
    · first | (rfl; done) | (dsimp only [gP, gS]; unfold va_up; split <;> first | (rfl; done) | (exfalso; omega))
    refine ite_c (fun h_wea => ?_) (fun h_wea => ?_)
    · first | (rfl; done) | (dsimp only [gP, gS]; unfold va_up; split <;> first | (rfl; done) | (exfalso; omega))
    refine ite_c (fun h_sto => ?_) (fun h_sto => ?_)
    · first | (rfl; done) | (dsimp only [gP, gS]; unfold va_up; split <;> first | (rfl; done) | (exfalso; omega))
    refine ite_c (fun h_rou => ?_) (fun h_rou => ?_)
    · first | (rfl; done) | (dsimp only [gP, gS]; unfold va_up; split <;> first | (rfl; done) | (exfalso; omega))
    refine ite_c (fun h_ews => ?_) (fun h_ews => ?_)
    · first | rfl | (exfalso; omega)
    refine ite_c (fun h_cos => ?_) (fun h_cos => ?_)
    · first | rfl | (exfalso; omega)
    refine ite_c (fun h_coa => ?_) (fun h_coa => ?_)
    · first | (rfl; done) | (dsimp only [gP, gS]; unfold va_up; split <;> first | (rfl; done) | (exfalso; omega))
    refine ite_c (fun h_ewe => ?_) (fun h_ewe => ?_)
    · dsimp only [gP, gS]
      by_cases q1 : (j - 31) / 8 = p
      · rw [q1, va_up_s, va_up_s]
        dsimp only
        by_cases q2 : (j - 31) % 8 = e
        · rw [q2, va_up_s, va_up_s]
        · rw [va_up_n q2, va_up_n q2]
      · rw [va_up_n q1, va_up_n q1]
    refine ite_c (fun h_fle => ?_) (fun h_fle => ?_)
    · dsimp only [gP, gS]
      by_cases q1 : (j - 56) / 8 = p
      · rw [q1, va_up_s, va_up_s]
        dsimp only
        by_cases q2 : (j - 56) % 8 = e
        · exact absurd (show j = 56 + (8 * p + e) by omega) hjk
        · rw [va_up_n q2, va_up_n q2]
      · rw [va_up_n q1, va_up_n q1]
    refine ite_c (fun h_tap => ?_) (fun h_tap => ?_)
    · first | rfl | (exfalso; omega)
    refine ite_c (fun h_byt => ?_) (fun h_byt => ?_)
    · first | rfl | (exfalso; omega)
    refine ite_c (fun h_shs => ?_) (fun h_shs => ?_)
    · first | rfl | (exfalso; omega)
    refine ite_c (fun h_she => ?_) (fun h_she => ?_)
    · first | (rfl; done) | (dsimp only [gP, gS]; unfold va_up; split <;> first | (rfl; done) | (exfalso; omega))
    refine ite_c (fun h_num => ?_) (fun h_num => ?_)
    · first | (rfl; done) | (dsimp only [gP, gS]; unfold va_up; split <;> first | (rfl; done) | (exfalso; omega))
    refine ite_c (fun h_tol => ?_) (fun h_tol => ?_)
    · first | rfl | (exfalso; omega)
    refine ite_c (fun h_mod => ?_) (fun h_mod => ?_)
    · first | rfl | (exfalso; omega)
    refine ite_c (fun h_ms => ?_) (fun h_ms => ?_)
    · first | rfl | (exfalso; omega)
    refine ite_c (fun h_mk => ?_) (fun h_mk => ?_)
    · first | rfl | (exfalso; omega)
    refine ite_c (fun h_mo => ?_) (fun h_mo => ?_)
    · first | rfl | (exfalso; omega)
    refine ite_c (fun h_ma => ?_) (fun h_ma => ?_)
    · first | rfl | (exfalso; omega)
    refine ite_c (fun h_mf => ?_) (fun h_mf => ?_)
    · first | rfl | (exfalso; omega)
    refine ite_c (fun h_mt => ?_) (fun h_mt => ?_)
    · first | rfl | (exfalso; omega)
    refine ite_c (fun h_mb => ?_) (fun h_mb => ?_)
    · first | rfl | (exfalso; omega)
    refine ite_c (fun h_mz => ?_) (fun h_mz => ?_)
    · first | rfl | (exfalso; omega)
    refine ite_c (fun h_mn => ?_) (fun h_mn => ?_)
    · first | rfl | (exfalso; omega)
    refine ite_c (fun h_mv => ?_) (fun h_mv => ?_)
    · first | rfl | (exfalso; omega)
    rfl
set_option maxHeartbeats 1000000 in
theorem u_tp {G : Gl} {par : Nat → Pa} {tb : Nat → Int32} {tz ta te tz2 ta2 te2 : Nat} {tk tv tk2 tv2 : Int32} {sh : Nat → Sh} {tl : Nat → Int32} {hi : Int32} {M : MS}  : ∀ j, j < 104 → cel G ((par, (tb, tz2, tk2, ta2, te2, tv2), sh, tl, hi), M) j = if j = 81 then ob 3 [.ref (ga G 82), .int (nI tz2), .int tk2, .int (nI ta2), .int (nI te2), .int tv2] else cel G ((par, (tb, tz, tk, ta, te, tv), sh, tl, hi), M) j := by
  intro j hj
  by_cases hjk : j = 81
  · rw [if_pos hjk, hjk]
    exact rfl
  · rw [if_neg hjk]
    unfold cel
    refine ite_c (fun h_obj => ?_) (fun h_obj => ?_)
    · first | rfl | (exfalso; omega)
    refine ite_c (fun h_par => ?_) (fun h_par => ?_)
    · first | (rfl; done) | (dsimp only [gP, gS]; unfold va_up; split <;> first | (rfl; done) | (exfalso; omega))
    refine ite_c (fun h_wea => ?_) (fun h_wea => ?_)
    · first | (rfl; done) | (dsimp only [gP, gS]; unfold va_up; split <;> first | (rfl; done) | (exfalso; omega))
    refine ite_c (fun h_sto => ?_) (fun h_sto => ?_)
    · first | (rfl; done) | (dsimp only [gP, gS]; unfold va_up; split <;> first | (rfl; done) | (exfalso; omega))
    refine ite_c (fun h_rou => ?_) (fun h_rou => ?_)
    · first | (rfl; done) | (dsimp only [gP, gS]; unfold va_up; split <;> first | (rfl; done) | (exfalso; omega))
    refine ite_c (fun h_ews => ?_) (fun h_ews => ?_)
    · first | rfl | (exfalso; omega)
    refine ite_c (fun h_cos => ?_) (fun h_cos => ?_)
    · first | rfl | (exfalso; omega)
    refine ite_c (fun h_coa => ?_) (fun h_coa => ?_)
    · first | (rfl; done) | (dsimp only [gP, gS]; unfold va_up; split <;> first | (rfl; done) | (exfalso; omega))
    refine ite_c (fun h_ewe => ?_) (fun h_ewe => ?_)
    · first | (rfl; done) | (dsimp only [gP, gS]; unfold va_up; split <;> first | (rfl; done) | (exfalso; omega))
    refine ite_c (fun h_fle => ?_) (fun h_fle => ?_)
    · first | (rfl; done) | (dsimp only [gP, gS]; unfold va_up; split <;> first | (rfl; done) | (exfalso; omega))
    refine ite_c (fun h_tap => ?_) (fun h_tap => ?_)
    · first | rfl | (exfalso; omega)
    refine ite_c (fun h_byt => ?_) (fun h_byt => ?_)
    · first | rfl | (exfalso; omega)
    refine ite_c (fun h_shs => ?_) (fun h_shs => ?_)
    · first | rfl | (exfalso; omega)
    refine ite_c (fun h_she => ?_) (fun h_she => ?_)
    · first | (rfl; done) | (dsimp only [gP, gS]; unfold va_up; split <;> first | (rfl; done) | (exfalso; omega))
    refine ite_c (fun h_num => ?_) (fun h_num => ?_)
    · first | (rfl; done) | (dsimp only [gP, gS]; unfold va_up; split <;> first | (rfl; done) | (exfalso; omega))
    refine ite_c (fun h_tol => ?_) (fun h_tol => ?_)
    · first | rfl | (exfalso; omega)
    refine ite_c (fun h_mod => ?_) (fun h_mod => ?_)
    · first | rfl | (exfalso; omega)
    refine ite_c (fun h_ms => ?_) (fun h_ms => ?_)
    · first | rfl | (exfalso; omega)
    refine ite_c (fun h_mk => ?_) (fun h_mk => ?_)
    · first | rfl | (exfalso; omega)
    refine ite_c (fun h_mo => ?_) (fun h_mo => ?_)
    · first | rfl | (exfalso; omega)
    refine ite_c (fun h_ma => ?_) (fun h_ma => ?_)
    · first | rfl | (exfalso; omega)
    refine ite_c (fun h_mf => ?_) (fun h_mf => ?_)
    · first | rfl | (exfalso; omega)
    refine ite_c (fun h_mt => ?_) (fun h_mt => ?_)
    · first | rfl | (exfalso; omega)
    refine ite_c (fun h_mb => ?_) (fun h_mb => ?_)
    · first | rfl | (exfalso; omega)
    refine ite_c (fun h_mz => ?_) (fun h_mz => ?_)
    · first | rfl | (exfalso; omega)
    refine ite_c (fun h_mn => ?_) (fun h_mn => ?_)
    · first | rfl | (exfalso; omega)
    refine ite_c (fun h_mv => ?_) (fun h_mv => ?_)
    · first | rfl | (exfalso; omega)
    rfl
set_option maxHeartbeats 1000000 in
theorem u_tb {G : Gl} {par : Nat → Pa} {tb tb2 : Nat → Int32} {tz ta te : Nat} {tk tv : Int32} {sh : Nat → Sh} {tl : Nat → Int32} {hi : Int32} {M : MS}  : ∀ j, j < 104 → cel G ((par, (tb2, tz, tk, ta, te, tv), sh, tl, hi), M) j = if j = 82 then ai (gcB G) 120 tb2 else cel G ((par, (tb, tz, tk, ta, te, tv), sh, tl, hi), M) j := by
  intro j hj
  by_cases hjk : j = 82
  · rw [if_pos hjk, hjk]
    exact rfl
  · rw [if_neg hjk]
    unfold cel
    refine ite_c (fun h_obj => ?_) (fun h_obj => ?_)
    · first | rfl | (exfalso; omega)
    refine ite_c (fun h_par => ?_) (fun h_par => ?_)
    · first | (rfl; done) | (dsimp only [gP, gS]; unfold va_up; split <;> first | (rfl; done) | (exfalso; omega))
    refine ite_c (fun h_wea => ?_) (fun h_wea => ?_)
    · first | (rfl; done) | (dsimp only [gP, gS]; unfold va_up; split <;> first | (rfl; done) | (exfalso; omega))
    refine ite_c (fun h_sto => ?_) (fun h_sto => ?_)
    · first | (rfl; done) | (dsimp only [gP, gS]; unfold va_up; split <;> first | (rfl; done) | (exfalso; omega))
    refine ite_c (fun h_rou => ?_) (fun h_rou => ?_)
    · first | (rfl; done) | (dsimp only [gP, gS]; unfold va_up; split <;> first | (rfl; done) | (exfalso; omega))
    refine ite_c (fun h_ews => ?_) (fun h_ews => ?_)
    · first | rfl | (exfalso; omega)
    refine ite_c (fun h_cos => ?_) (fun h_cos => ?_)
    · first | rfl | (exfalso; omega)
    refine ite_c (fun h_coa => ?_) (fun h_coa => ?_)
    · first | (rfl; done) | (dsimp only [gP, gS]; unfold va_up; split <;> first | (rfl; done) | (exfalso; omega))
    refine ite_c (fun h_ewe => ?_) (fun h_ewe => ?_)
    · first | (rfl; done) | (dsimp only [gP, gS]; unfold va_up; split <;> first | (rfl; done) | (exfalso; omega))
    refine ite_c (fun h_fle => ?_) (fun h_fle => ?_)
    · first | (rfl; done) | (dsimp only [gP, gS]; unfold va_up; split <;> first | (rfl; done) | (exfalso; omega))
    refine ite_c (fun h_tap => ?_) (fun h_tap => ?_)
    · first | rfl | (exfalso; omega)
    refine ite_c (fun h_byt => ?_) (fun h_byt => ?_)
    · first | rfl | (exfalso; omega)
    refine ite_c (fun h_shs => ?_) (fun h_shs => ?_)
    · first | rfl | (exfalso; omega)
    refine ite_c (fun h_she => ?_) (fun h_she => ?_)
    · first | (rfl; done) | (dsimp only [gP, gS]; unfold va_up; split <;> first | (rfl; done) | (exfalso; omega))
    refine ite_c (fun h_num => ?_) (fun h_num => ?_)
    · first | (rfl; done) | (dsimp only [gP, gS]; unfold va_up; split <;> first | (rfl; done) | (exfalso; omega))
    refine ite_c (fun h_tol => ?_) (fun h_tol => ?_)
    · first | rfl | (exfalso; omega)
    refine ite_c (fun h_mod => ?_) (fun h_mod => ?_)
    · first | rfl | (exfalso; omega)
    refine ite_c (fun h_ms => ?_) (fun h_ms => ?_)
    · first | rfl | (exfalso; omega)
    refine ite_c (fun h_mk => ?_) (fun h_mk => ?_)
    · first | rfl | (exfalso; omega)
    refine ite_c (fun h_mo => ?_) (fun h_mo => ?_)
    · first | rfl | (exfalso; omega)
    refine ite_c (fun h_ma => ?_) (fun h_ma => ?_)
    · first | rfl | (exfalso; omega)
    refine ite_c (fun h_mf => ?_) (fun h_mf => ?_)
    · first | rfl | (exfalso; omega)
    refine ite_c (fun h_mt => ?_) (fun h_mt => ?_)
    · first | rfl | (exfalso; omega)
    refine ite_c (fun h_mb => ?_) (fun h_mb => ?_)
    · first | rfl | (exfalso; omega)
    refine ite_c (fun h_mz => ?_) (fun h_mz => ?_)
    · first | rfl | (exfalso; omega)
    refine ite_c (fun h_mn => ?_) (fun h_mn => ?_)
    · first | rfl | (exfalso; omega)
    refine ite_c (fun h_mv => ?_) (fun h_mv => ?_)
    · first | rfl | (exfalso; omega)
    rfl
set_option maxHeartbeats 1000000 in
theorem u_sh {G : Gl} {par : Nat → Pa} {tp : Tp} {sh : Nat → Sh} {tl : Nat → Int32} {hi : Int32} {M : MS} {s : Nat} {sn : Nat → Int64} {zz zz2 : Nat} {sb sb2 : Int32} (hs : s < 4) : ∀ j, j < 104 → cel G ((par, tp, va_up sh s (sn, zz2, sb2), tl, hi), M) j = if j = 84 + s then ob 2 [.ref (ga G (88 + s)), .int (nI zz2), .int sb2] else cel G ((par, tp, va_up sh s (sn, zz, sb), tl, hi), M) j := by
  intro j hj
  by_cases hjk : j = 84 + s
  · rw [if_pos hjk, hjk]
    exact f_she hs
  · rw [if_neg hjk]
    unfold cel
    refine ite_c (fun h_obj => ?_) (fun h_obj => ?_)
    · first | rfl | (exfalso; omega)
    refine ite_c (fun h_par => ?_) (fun h_par => ?_)
    · first | (rfl; done) | (dsimp only [gP, gS]; unfold va_up; split <;> first | (rfl; done) | (exfalso; omega))
    refine ite_c (fun h_wea => ?_) (fun h_wea => ?_)
    · first | (rfl; done) | (dsimp only [gP, gS]; unfold va_up; split <;> first | (rfl; done) | (exfalso; omega))
    refine ite_c (fun h_sto => ?_) (fun h_sto => ?_)
    · first | (rfl; done) | (dsimp only [gP, gS]; unfold va_up; split <;> first | (rfl; done) | (exfalso; omega))
    refine ite_c (fun h_rou => ?_) (fun h_rou => ?_)
    · first | (rfl; done) | (dsimp only [gP, gS]; unfold va_up; split <;> first | (rfl; done) | (exfalso; omega))
    refine ite_c (fun h_ews => ?_) (fun h_ews => ?_)
    · first | rfl | (exfalso; omega)
    refine ite_c (fun h_cos => ?_) (fun h_cos => ?_)
    · first | rfl | (exfalso; omega)
    refine ite_c (fun h_coa => ?_) (fun h_coa => ?_)
    · first | (rfl; done) | (dsimp only [gP, gS]; unfold va_up; split <;> first | (rfl; done) | (exfalso; omega))
    refine ite_c (fun h_ewe => ?_) (fun h_ewe => ?_)
    · first | (rfl; done) | (dsimp only [gP, gS]; unfold va_up; split <;> first | (rfl; done) | (exfalso; omega))
    refine ite_c (fun h_fle => ?_) (fun h_fle => ?_)
    · first | (rfl; done) | (dsimp only [gP, gS]; unfold va_up; split <;> first | (rfl; done) | (exfalso; omega))
    refine ite_c (fun h_tap => ?_) (fun h_tap => ?_)
    · first | rfl | (exfalso; omega)
    refine ite_c (fun h_byt => ?_) (fun h_byt => ?_)
    · first | rfl | (exfalso; omega)
    refine ite_c (fun h_shs => ?_) (fun h_shs => ?_)
    · first | rfl | (exfalso; omega)
    refine ite_c (fun h_she => ?_) (fun h_she => ?_)
    · first | (rfl; done) | (dsimp only [gP, gS]; unfold va_up; split <;> first | (rfl; done) | (exfalso; omega))
    refine ite_c (fun h_num => ?_) (fun h_num => ?_)
    · first | (rfl; done) | (dsimp only [gP, gS]; unfold va_up; split <;> first | (rfl; done) | (exfalso; omega))
    refine ite_c (fun h_tol => ?_) (fun h_tol => ?_)
    · first | rfl | (exfalso; omega)
    refine ite_c (fun h_mod => ?_) (fun h_mod => ?_)
    · first | rfl | (exfalso; omega)
    refine ite_c (fun h_ms => ?_) (fun h_ms => ?_)
    · first | rfl | (exfalso; omega)
    refine ite_c (fun h_mk => ?_) (fun h_mk => ?_)
    · first | rfl | (exfalso; omega)
    refine ite_c (fun h_mo => ?_) (fun h_mo => ?_)
    · first | rfl | (exfalso; omega)
    refine ite_c (fun h_ma => ?_) (fun h_ma => ?_)
    · first | rfl | (exfalso; omega)
    refine ite_c (fun h_mf => ?_) (fun h_mf => ?_)
    · first | rfl | (exfalso; omega)
    refine ite_c (fun h_mt => ?_) (fun h_mt => ?_)
    · first | rfl | (exfalso; omega)
    refine ite_c (fun h_mb => ?_) (fun h_mb => ?_)
    · first | rfl | (exfalso; omega)
    refine ite_c (fun h_mz => ?_) (fun h_mz => ?_)
    · first | rfl | (exfalso; omega)
    refine ite_c (fun h_mn => ?_) (fun h_mn => ?_)
    · first | rfl | (exfalso; omega)
    refine ite_c (fun h_mv => ?_) (fun h_mv => ?_)
    · first | rfl | (exfalso; omega)
    rfl
set_option maxHeartbeats 1000000 in
theorem u_sn {G : Gl} {par : Nat → Pa} {tp : Tp} {sh : Nat → Sh} {tl : Nat → Int32} {hi : Int32} {M : MS} {s : Nat} {sn sn2 : Nat → Int64} {zz : Nat} {sb : Int32} (hs : s < 4) : ∀ j, j < 104 → cel G ((par, tp, va_up sh s (sn2, zz, sb), tl, hi), M) j = if j = 88 + s then aj (gcJ G) 40 sn2 else cel G ((par, tp, va_up sh s (sn, zz, sb), tl, hi), M) j := by
  intro j hj
  by_cases hjk : j = 88 + s
  · rw [if_pos hjk, hjk]
    exact f_num hs
  · rw [if_neg hjk]
    unfold cel
    refine ite_c (fun h_obj => ?_) (fun h_obj => ?_)
    · first | rfl | (exfalso; omega)
    refine ite_c (fun h_par => ?_) (fun h_par => ?_)
    · first | (rfl; done) | (dsimp only [gP, gS]; unfold va_up; split <;> first | (rfl; done) | (exfalso; omega))
    refine ite_c (fun h_wea => ?_) (fun h_wea => ?_)
    · first | (rfl; done) | (dsimp only [gP, gS]; unfold va_up; split <;> first | (rfl; done) | (exfalso; omega))
    refine ite_c (fun h_sto => ?_) (fun h_sto => ?_)
    · first | (rfl; done) | (dsimp only [gP, gS]; unfold va_up; split <;> first | (rfl; done) | (exfalso; omega))
    refine ite_c (fun h_rou => ?_) (fun h_rou => ?_)
    · first | (rfl; done) | (dsimp only [gP, gS]; unfold va_up; split <;> first | (rfl; done) | (exfalso; omega))
    refine ite_c (fun h_ews => ?_) (fun h_ews => ?_)
    · first | rfl | (exfalso; omega)
    refine ite_c (fun h_cos => ?_) (fun h_cos => ?_)
    · first | rfl | (exfalso; omega)
    refine ite_c (fun h_coa => ?_) (fun h_coa => ?_)
    · first | (rfl; done) | (dsimp only [gP, gS]; unfold va_up; split <;> first | (rfl; done) | (exfalso; omega))
    refine ite_c (fun h_ewe => ?_) (fun h_ewe => ?_)
    · first | (rfl; done) | (dsimp only [gP, gS]; unfold va_up; split <;> first | (rfl; done) | (exfalso; omega))
    refine ite_c (fun h_fle => ?_) (fun h_fle => ?_)
    · first | (rfl; done) | (dsimp only [gP, gS]; unfold va_up; split <;> first | (rfl; done) | (exfalso; omega))
    refine ite_c (fun h_tap => ?_) (fun h_tap => ?_)
    · first | rfl | (exfalso; omega)
    refine ite_c (fun h_byt => ?_) (fun h_byt => ?_)
    · first | rfl | (exfalso; omega)
    refine ite_c (fun h_shs => ?_) (fun h_shs => ?_)
    · first | rfl | (exfalso; omega)
    refine ite_c (fun h_she => ?_) (fun h_she => ?_)
    · first | (rfl; done) | (dsimp only [gP, gS]; unfold va_up; split <;> first | (rfl; done) | (exfalso; omega))
    refine ite_c (fun h_num => ?_) (fun h_num => ?_)
    · first | (rfl; done) | (dsimp only [gP, gS]; unfold va_up; split <;> first | (rfl; done) | (exfalso; omega))
    refine ite_c (fun h_tol => ?_) (fun h_tol => ?_)
    · first | rfl | (exfalso; omega)
    refine ite_c (fun h_mod => ?_) (fun h_mod => ?_)
    · first | rfl | (exfalso; omega)
    refine ite_c (fun h_ms => ?_) (fun h_ms => ?_)
    · first | rfl | (exfalso; omega)
    refine ite_c (fun h_mk => ?_) (fun h_mk => ?_)
    · first | rfl | (exfalso; omega)
    refine ite_c (fun h_mo => ?_) (fun h_mo => ?_)
    · first | rfl | (exfalso; omega)
    refine ite_c (fun h_ma => ?_) (fun h_ma => ?_)
    · first | rfl | (exfalso; omega)
    refine ite_c (fun h_mf => ?_) (fun h_mf => ?_)
    · first | rfl | (exfalso; omega)
    refine ite_c (fun h_mt => ?_) (fun h_mt => ?_)
    · first | rfl | (exfalso; omega)
    refine ite_c (fun h_mb => ?_) (fun h_mb => ?_)
    · first | rfl | (exfalso; omega)
    refine ite_c (fun h_mz => ?_) (fun h_mz => ?_)
    · first | rfl | (exfalso; omega)
    refine ite_c (fun h_mn => ?_) (fun h_mn => ?_)
    · first | rfl | (exfalso; omega)
    refine ite_c (fun h_mv => ?_) (fun h_mv => ?_)
    · first | rfl | (exfalso; omega)
    rfl
set_option maxHeartbeats 1000000 in
theorem u_tl {G : Gl} {par : Nat → Pa} {tp : Tp} {sh : Nat → Sh} {tl : Nat → Int32} {hi : Int32} {M : MS} {tl2 : Nat → Int32}  : ∀ j, j < 104 → cel G ((par, tp, sh, tl2, hi), M) j = if j = 92 then ai (gcI G) 7 tl2 else cel G ((par, tp, sh, tl, hi), M) j := by
  intro j hj
  by_cases hjk : j = 92
  · rw [if_pos hjk, hjk]
    exact rfl
  · rw [if_neg hjk]
    unfold cel
    refine ite_c (fun h_obj => ?_) (fun h_obj => ?_)
    · first | rfl | (exfalso; omega)
    refine ite_c (fun h_par => ?_) (fun h_par => ?_)
    · first | (rfl; done) | (dsimp only [gP, gS]; unfold va_up; split <;> first | (rfl; done) | (exfalso; omega))
    refine ite_c (fun h_wea => ?_) (fun h_wea => ?_)
    · first | (rfl; done) | (dsimp only [gP, gS]; unfold va_up; split <;> first | (rfl; done) | (exfalso; omega))
    refine ite_c (fun h_sto => ?_) (fun h_sto => ?_)
    · first | (rfl; done) | (dsimp only [gP, gS]; unfold va_up; split <;> first | (rfl; done) | (exfalso; omega))
    refine ite_c (fun h_rou => ?_) (fun h_rou => ?_)
    · first | (rfl; done) | (dsimp only [gP, gS]; unfold va_up; split <;> first | (rfl; done) | (exfalso; omega))
    refine ite_c (fun h_ews => ?_) (fun h_ews => ?_)
    · first | rfl | (exfalso; omega)
    refine ite_c (fun h_cos => ?_) (fun h_cos => ?_)
    · first | rfl | (exfalso; omega)
    refine ite_c (fun h_coa => ?_) (fun h_coa => ?_)
    · first | (rfl; done) | (dsimp only [gP, gS]; unfold va_up; split <;> first | (rfl; done) | (exfalso; omega))
    refine ite_c (fun h_ewe => ?_) (fun h_ewe => ?_)
    · first | (rfl; done) | (dsimp only [gP, gS]; unfold va_up; split <;> first | (rfl; done) | (exfalso; omega))
    refine ite_c (fun h_fle => ?_) (fun h_fle => ?_)
    · first | (rfl; done) | (dsimp only [gP, gS]; unfold va_up; split <;> first | (rfl; done) | (exfalso; omega))
    refine ite_c (fun h_tap => ?_) (fun h_tap => ?_)
    · first | rfl | (exfalso; omega)
    refine ite_c (fun h_byt => ?_) (fun h_byt => ?_)
    · first | rfl | (exfalso; omega)
    refine ite_c (fun h_shs => ?_) (fun h_shs => ?_)
    · first | rfl | (exfalso; omega)
    refine ite_c (fun h_she => ?_) (fun h_she => ?_)
    · first | (rfl; done) | (dsimp only [gP, gS]; unfold va_up; split <;> first | (rfl; done) | (exfalso; omega))
    refine ite_c (fun h_num => ?_) (fun h_num => ?_)
    · first | (rfl; done) | (dsimp only [gP, gS]; unfold va_up; split <;> first | (rfl; done) | (exfalso; omega))
    refine ite_c (fun h_tol => ?_) (fun h_tol => ?_)
    · first | rfl | (exfalso; omega)
    refine ite_c (fun h_mod => ?_) (fun h_mod => ?_)
    · first | rfl | (exfalso; omega)
    refine ite_c (fun h_ms => ?_) (fun h_ms => ?_)
    · first | rfl | (exfalso; omega)
    refine ite_c (fun h_mk => ?_) (fun h_mk => ?_)
    · first | rfl | (exfalso; omega)
    refine ite_c (fun h_mo => ?_) (fun h_mo => ?_)
    · first | rfl | (exfalso; omega)
    refine ite_c (fun h_ma => ?_) (fun h_ma => ?_)
    · first | rfl | (exfalso; omega)
    refine ite_c (fun h_mf => ?_) (fun h_mf => ?_)
    · first | rfl | (exfalso; omega)
    refine ite_c (fun h_mt => ?_) (fun h_mt => ?_)
    · first | rfl | (exfalso; omega)
    refine ite_c (fun h_mb => ?_) (fun h_mb => ?_)
    · first | rfl | (exfalso; omega)
    refine ite_c (fun h_mz => ?_) (fun h_mz => ?_)
    · first | rfl | (exfalso; omega)
    refine ite_c (fun h_mn => ?_) (fun h_mn => ?_)
    · first | rfl | (exfalso; omega)
    refine ite_c (fun h_mv => ?_) (fun h_mv => ?_)
    · first | rfl | (exfalso; omega)
    rfl
set_option maxHeartbeats 1000000 in
theorem u_hi {G : Gl} {par : Nat → Pa} {tp : Tp} {sh : Nat → Sh} {tl : Nat → Int32} {hi : Int32} {M : MS} {hi2 : Int32}  : ∀ j, j < 104 → cel G ((par, tp, sh, tl, hi2), M) j = if j = 0 then ob 4 [.ref (ga G 1), .ref (ga G 2), .ref (ga G 3), .ref (ga G 55), .ref (ga G 81), .ref (ga G 83), .ref (ga G 92), .int hi2] else cel G ((par, tp, sh, tl, hi), M) j := by
  intro j hj
  by_cases hjk : j = 0
  · rw [if_pos hjk, hjk]
    exact rfl
  · rw [if_neg hjk]
    unfold cel
    refine ite_c (fun h_obj => ?_) (fun h_obj => ?_)
    · first | rfl | (exfalso; omega)
    refine ite_c (fun h_par => ?_) (fun h_par => ?_)
    · first | (rfl; done) | (dsimp only [gP, gS]; unfold va_up; split <;> first | (rfl; done) | (exfalso; omega))
    refine ite_c (fun h_wea => ?_) (fun h_wea => ?_)
    · first | (rfl; done) | (dsimp only [gP, gS]; unfold va_up; split <;> first | (rfl; done) | (exfalso; omega))
    refine ite_c (fun h_sto => ?_) (fun h_sto => ?_)
    · first | (rfl; done) | (dsimp only [gP, gS]; unfold va_up; split <;> first | (rfl; done) | (exfalso; omega))
    refine ite_c (fun h_rou => ?_) (fun h_rou => ?_)
    · first | (rfl; done) | (dsimp only [gP, gS]; unfold va_up; split <;> first | (rfl; done) | (exfalso; omega))
    refine ite_c (fun h_ews => ?_) (fun h_ews => ?_)
    · first | rfl | (exfalso; omega)
    refine ite_c (fun h_cos => ?_) (fun h_cos => ?_)
    · first | rfl | (exfalso; omega)
    refine ite_c (fun h_coa => ?_) (fun h_coa => ?_)
    · first | (rfl; done) | (dsimp only [gP, gS]; unfold va_up; split <;> first | (rfl; done) | (exfalso; omega))
    refine ite_c (fun h_ewe => ?_) (fun h_ewe => ?_)
    · first | (rfl; done) | (dsimp only [gP, gS]; unfold va_up; split <;> first | (rfl; done) | (exfalso; omega))
    refine ite_c (fun h_fle => ?_) (fun h_fle => ?_)
    · first | (rfl; done) | (dsimp only [gP, gS]; unfold va_up; split <;> first | (rfl; done) | (exfalso; omega))
    refine ite_c (fun h_tap => ?_) (fun h_tap => ?_)
    · first | rfl | (exfalso; omega)
    refine ite_c (fun h_byt => ?_) (fun h_byt => ?_)
    · first | rfl | (exfalso; omega)
    refine ite_c (fun h_shs => ?_) (fun h_shs => ?_)
    · first | rfl | (exfalso; omega)
    refine ite_c (fun h_she => ?_) (fun h_she => ?_)
    · first | (rfl; done) | (dsimp only [gP, gS]; unfold va_up; split <;> first | (rfl; done) | (exfalso; omega))
    refine ite_c (fun h_num => ?_) (fun h_num => ?_)
    · first | (rfl; done) | (dsimp only [gP, gS]; unfold va_up; split <;> first | (rfl; done) | (exfalso; omega))
    refine ite_c (fun h_tol => ?_) (fun h_tol => ?_)
    · first | rfl | (exfalso; omega)
    refine ite_c (fun h_mod => ?_) (fun h_mod => ?_)
    · first | rfl | (exfalso; omega)
    refine ite_c (fun h_ms => ?_) (fun h_ms => ?_)
    · first | rfl | (exfalso; omega)
    refine ite_c (fun h_mk => ?_) (fun h_mk => ?_)
    · first | rfl | (exfalso; omega)
    refine ite_c (fun h_mo => ?_) (fun h_mo => ?_)
    · first | rfl | (exfalso; omega)
    refine ite_c (fun h_ma => ?_) (fun h_ma => ?_)
    · first | rfl | (exfalso; omega)
    refine ite_c (fun h_mf => ?_) (fun h_mf => ?_)
    · first | rfl | (exfalso; omega)
    refine ite_c (fun h_mt => ?_) (fun h_mt => ?_)
    · first | rfl | (exfalso; omega)
    refine ite_c (fun h_mb => ?_) (fun h_mb => ?_)
    · first | rfl | (exfalso; omega)
    refine ite_c (fun h_mz => ?_) (fun h_mz => ?_)
    · first | rfl | (exfalso; omega)
    refine ite_c (fun h_mn => ?_) (fun h_mn => ?_)
    · first | rfl | (exfalso; omega)
    refine ite_c (fun h_mv => ?_) (fun h_mv => ?_)
    · first | rfl | (exfalso; omega)
    rfl
set_option maxHeartbeats 1000000 in
theorem u_m {G : Gl} {K : CS} {ms : Nat → Int32} {mk : Nat → Int32} {mo : Nat → Int32} {ma : Nat → Int32} {mf : Nat → Int32} {ik : Int32} {mt : Nat → Int32} {td : Nat} {fr : Nat} {tt : Nat} {vl : Int32} {wr : Int32} {mb : Nat → Int32} {mz : Nat → Int32} {mn : Nat → Int64} {mv : Nat → Int64} {ik2 vl2 wr2 : Int32} {td2 fr2 tt2 : Nat}  : ∀ j, j < 104 → cel G (K, (ms, mk, mo, ma, mf, ik2, mt, td2, fr2, tt2, vl2, wr2, mb, mz, mn, mv)) j = if j = 93 then ob 5 [.ref (ga G 94), .ref (ga G 95), .ref (ga G 96), .ref (ga G 97), .ref (ga G 98), .int ik2, .ref (ga G 99), .int (nI td2), .int (nI fr2), .int (nI tt2), .int vl2, .int wr2, .ref (ga G 100), .ref (ga G 101), .ref (ga G 102), .ref (ga G 103)] else cel G (K, (ms, mk, mo, ma, mf, ik, mt, td, fr, tt, vl, wr, mb, mz, mn, mv)) j := by
  intro j hj
  by_cases hjk : j = 93
  · rw [if_pos hjk, hjk]
    exact rfl
  · rw [if_neg hjk]
    unfold cel
    refine ite_c (fun h_obj => ?_) (fun h_obj => ?_)
    · first | rfl | (exfalso; omega)
    refine ite_c (fun h_par => ?_) (fun h_par => ?_)
    · first | (rfl; done) | (dsimp only [gP, gS]; unfold va_up; split <;> first | (rfl; done) | (exfalso; omega))
    refine ite_c (fun h_wea => ?_) (fun h_wea => ?_)
    · first | (rfl; done) | (dsimp only [gP, gS]; unfold va_up; split <;> first | (rfl; done) | (exfalso; omega))
    refine ite_c (fun h_sto => ?_) (fun h_sto => ?_)
    · first | (rfl; done) | (dsimp only [gP, gS]; unfold va_up; split <;> first | (rfl; done) | (exfalso; omega))
    refine ite_c (fun h_rou => ?_) (fun h_rou => ?_)
    · first | (rfl; done) | (dsimp only [gP, gS]; unfold va_up; split <;> first | (rfl; done) | (exfalso; omega))
    refine ite_c (fun h_ews => ?_) (fun h_ews => ?_)
    · first | rfl | (exfalso; omega)
    refine ite_c (fun h_cos => ?_) (fun h_cos => ?_)
    · first | rfl | (exfalso; omega)
    refine ite_c (fun h_coa => ?_) (fun h_coa => ?_)
    · first | (rfl; done) | (dsimp only [gP, gS]; unfold va_up; split <;> first | (rfl; done) | (exfalso; omega))
    refine ite_c (fun h_ewe => ?_) (fun h_ewe => ?_)
    · first | (rfl; done) | (dsimp only [gP, gS]; unfold va_up; split <;> first | (rfl; done) | (exfalso; omega))
    refine ite_c (fun h_fle => ?_) (fun h_fle => ?_)
    · first | (rfl; done) | (dsimp only [gP, gS]; unfold va_up; split <;> first | (rfl; done) | (exfalso; omega))
    refine ite_c (fun h_tap => ?_) (fun h_tap => ?_)
    · first | rfl | (exfalso; omega)
    refine ite_c (fun h_byt => ?_) (fun h_byt => ?_)
    · first | rfl | (exfalso; omega)
    refine ite_c (fun h_shs => ?_) (fun h_shs => ?_)
    · first | rfl | (exfalso; omega)
    refine ite_c (fun h_she => ?_) (fun h_she => ?_)
    · first | (rfl; done) | (dsimp only [gP, gS]; unfold va_up; split <;> first | (rfl; done) | (exfalso; omega))
    refine ite_c (fun h_num => ?_) (fun h_num => ?_)
    · first | (rfl; done) | (dsimp only [gP, gS]; unfold va_up; split <;> first | (rfl; done) | (exfalso; omega))
    refine ite_c (fun h_tol => ?_) (fun h_tol => ?_)
    · first | rfl | (exfalso; omega)
    refine ite_c (fun h_mod => ?_) (fun h_mod => ?_)
    · first | rfl | (exfalso; omega)
    refine ite_c (fun h_ms => ?_) (fun h_ms => ?_)
    · first | rfl | (exfalso; omega)
    refine ite_c (fun h_mk => ?_) (fun h_mk => ?_)
    · first | rfl | (exfalso; omega)
    refine ite_c (fun h_mo => ?_) (fun h_mo => ?_)
    · first | rfl | (exfalso; omega)
    refine ite_c (fun h_ma => ?_) (fun h_ma => ?_)
    · first | rfl | (exfalso; omega)
    refine ite_c (fun h_mf => ?_) (fun h_mf => ?_)
    · first | rfl | (exfalso; omega)
    refine ite_c (fun h_mt => ?_) (fun h_mt => ?_)
    · first | rfl | (exfalso; omega)
    refine ite_c (fun h_mb => ?_) (fun h_mb => ?_)
    · first | rfl | (exfalso; omega)
    refine ite_c (fun h_mz => ?_) (fun h_mz => ?_)
    · first | rfl | (exfalso; omega)
    refine ite_c (fun h_mn => ?_) (fun h_mn => ?_)
    · first | rfl | (exfalso; omega)
    refine ite_c (fun h_mv => ?_) (fun h_mv => ?_)
    · first | rfl | (exfalso; omega)
    rfl
set_option maxHeartbeats 1000000 in
theorem u_ms {G : Gl} {K : CS} {ms : Nat → Int32} {mk : Nat → Int32} {mo : Nat → Int32} {ma : Nat → Int32} {mf : Nat → Int32} {ik : Int32} {mt : Nat → Int32} {td : Nat} {fr : Nat} {tt : Nat} {vl : Int32} {wr : Int32} {mb : Nat → Int32} {mz : Nat → Int32} {mn : Nat → Int64} {mv : Nat → Int64} {ms2 : Nat → Int32}  : ∀ j, j < 104 → cel G (K, (ms2, mk, mo, ma, mf, ik, mt, td, fr, tt, vl, wr, mb, mz, mn, mv)) j = if j = 94 then ai (gcI G) 198 ms2 else cel G (K, (ms, mk, mo, ma, mf, ik, mt, td, fr, tt, vl, wr, mb, mz, mn, mv)) j := by
  intro j hj
  by_cases hjk : j = 94
  · rw [if_pos hjk, hjk]
    exact rfl
  · rw [if_neg hjk]
    unfold cel
    refine ite_c (fun h_obj => ?_) (fun h_obj => ?_)
    · first | rfl | (exfalso; omega)
    refine ite_c (fun h_par => ?_) (fun h_par => ?_)
    · first | (rfl; done) | (dsimp only [gP, gS]; unfold va_up; split <;> first | (rfl; done) | (exfalso; omega))
    refine ite_c (fun h_wea => ?_) (fun h_wea => ?_)
    · first | (rfl; done) | (dsimp only [gP, gS]; unfold va_up; split <;> first | (rfl; done) | (exfalso; omega))
    refine ite_c (fun h_sto => ?_) (fun h_sto => ?_)
    · first | (rfl; done) | (dsimp only [gP, gS]; unfold va_up; split <;> first | (rfl; done) | (exfalso; omega))
    refine ite_c (fun h_rou => ?_) (fun h_rou => ?_)
    · first | (rfl; done) | (dsimp only [gP, gS]; unfold va_up; split <;> first | (rfl; done) | (exfalso; omega))
    refine ite_c (fun h_ews => ?_) (fun h_ews => ?_)
    · first | rfl | (exfalso; omega)
    refine ite_c (fun h_cos => ?_) (fun h_cos => ?_)
    · first | rfl | (exfalso; omega)
    refine ite_c (fun h_coa => ?_) (fun h_coa => ?_)
    · first | (rfl; done) | (dsimp only [gP, gS]; unfold va_up; split <;> first | (rfl; done) | (exfalso; omega))
    refine ite_c (fun h_ewe => ?_) (fun h_ewe => ?_)
    · first | (rfl; done) | (dsimp only [gP, gS]; unfold va_up; split <;> first | (rfl; done) | (exfalso; omega))
    refine ite_c (fun h_fle => ?_) (fun h_fle => ?_)
    · first | (rfl; done) | (dsimp only [gP, gS]; unfold va_up; split <;> first | (rfl; done) | (exfalso; omega))
    refine ite_c (fun h_tap => ?_) (fun h_tap => ?_)
    · first | rfl | (exfalso; omega)
    refine ite_c (fun h_byt => ?_) (fun h_byt => ?_)
    · first | rfl | (exfalso; omega)
    refine ite_c (fun h_shs => ?_) (fun h_shs => ?_)
    · first | rfl | (exfalso; omega)
    refine ite_c (fun h_she => ?_) (fun h_she => ?_)
    · first | (rfl; done) | (dsimp only [gP, gS]; unfold va_up; split <;> first | (rfl; done) | (exfalso; omega))
    refine ite_c (fun h_num => ?_) (fun h_num => ?_)
    · first | (rfl; done) | (dsimp only [gP, gS]; unfold va_up; split <;> first | (rfl; done) | (exfalso; omega))
    refine ite_c (fun h_tol => ?_) (fun h_tol => ?_)
    · first | rfl | (exfalso; omega)
    refine ite_c (fun h_mod => ?_) (fun h_mod => ?_)
    · first | rfl | (exfalso; omega)
    refine ite_c (fun h_ms => ?_) (fun h_ms => ?_)
    · first | rfl | (exfalso; omega)
    refine ite_c (fun h_mk => ?_) (fun h_mk => ?_)
    · first | rfl | (exfalso; omega)
    refine ite_c (fun h_mo => ?_) (fun h_mo => ?_)
    · first | rfl | (exfalso; omega)
    refine ite_c (fun h_ma => ?_) (fun h_ma => ?_)
    · first | rfl | (exfalso; omega)
    refine ite_c (fun h_mf => ?_) (fun h_mf => ?_)
    · first | rfl | (exfalso; omega)
    refine ite_c (fun h_mt => ?_) (fun h_mt => ?_)
    · first | rfl | (exfalso; omega)
    refine ite_c (fun h_mb => ?_) (fun h_mb => ?_)
    · first | rfl | (exfalso; omega)
    refine ite_c (fun h_mz => ?_) (fun h_mz => ?_)
    · first | rfl | (exfalso; omega)
    refine ite_c (fun h_mn => ?_) (fun h_mn => ?_)
    · first | rfl | (exfalso; omega)
    refine ite_c (fun h_mv => ?_) (fun h_mv => ?_)
    · first | rfl | (exfalso; omega)
    rfl
set_option maxHeartbeats 1000000 in
theorem u_mk {G : Gl} {K : CS} {ms : Nat → Int32} {mk : Nat → Int32} {mo : Nat → Int32} {ma : Nat → Int32} {mf : Nat → Int32} {ik : Int32} {mt : Nat → Int32} {td : Nat} {fr : Nat} {tt : Nat} {vl : Int32} {wr : Int32} {mb : Nat → Int32} {mz : Nat → Int32} {mn : Nat → Int64} {mv : Nat → Int64} {mk2 : Nat → Int32}  : ∀ j, j < 104 → cel G (K, (ms, mk2, mo, ma, mf, ik, mt, td, fr, tt, vl, wr, mb, mz, mn, mv)) j = if j = 95 then ai (gcI G) 198 mk2 else cel G (K, (ms, mk, mo, ma, mf, ik, mt, td, fr, tt, vl, wr, mb, mz, mn, mv)) j := by
  intro j hj
  by_cases hjk : j = 95
  · rw [if_pos hjk, hjk]
    exact rfl
  · rw [if_neg hjk]
    unfold cel
    refine ite_c (fun h_obj => ?_) (fun h_obj => ?_)
    · first | rfl | (exfalso; omega)
    refine ite_c (fun h_par => ?_) (fun h_par => ?_)
    · first | (rfl; done) | (dsimp only [gP, gS]; unfold va_up; split <;> first | (rfl; done) | (exfalso; omega))
    refine ite_c (fun h_wea => ?_) (fun h_wea => ?_)
    · first | (rfl; done) | (dsimp only [gP, gS]; unfold va_up; split <;> first | (rfl; done) | (exfalso; omega))
    refine ite_c (fun h_sto => ?_) (fun h_sto => ?_)
    · first | (rfl; done) | (dsimp only [gP, gS]; unfold va_up; split <;> first | (rfl; done) | (exfalso; omega))
    refine ite_c (fun h_rou => ?_) (fun h_rou => ?_)
    · first | (rfl; done) | (dsimp only [gP, gS]; unfold va_up; split <;> first | (rfl; done) | (exfalso; omega))
    refine ite_c (fun h_ews => ?_) (fun h_ews => ?_)
    · first | rfl | (exfalso; omega)
    refine ite_c (fun h_cos => ?_) (fun h_cos => ?_)
    · first | rfl | (exfalso; omega)
    refine ite_c (fun h_coa => ?_) (fun h_coa => ?_)
    · first | (rfl; done) | (dsimp only [gP, gS]; unfold va_up; split <;> first | (rfl; done) | (exfalso; omega))
    refine ite_c (fun h_ewe => ?_) (fun h_ewe => ?_)
    · first | (rfl; done) | (dsimp only [gP, gS]; unfold va_up; split <;> first | (rfl; done) | (exfalso; omega))
    refine ite_c (fun h_fle => ?_) (fun h_fle => ?_)
    · first | (rfl; done) | (dsimp only [gP, gS]; unfold va_up; split <;> first | (rfl; done) | (exfalso; omega))
    refine ite_c (fun h_tap => ?_) (fun h_tap => ?_)
    · first | rfl | (exfalso; omega)
    refine ite_c (fun h_byt => ?_) (fun h_byt => ?_)
    · first | rfl | (exfalso; omega)
    refine ite_c (fun h_shs => ?_) (fun h_shs => ?_)
    · first | rfl | (exfalso; omega)
    refine ite_c (fun h_she => ?_) (fun h_she => ?_)
    · first | (rfl; done) | (dsimp only [gP, gS]; unfold va_up; split <;> first | (rfl; done) | (exfalso; omega))
    refine ite_c (fun h_num => ?_) (fun h_num => ?_)
    · first | (rfl; done) | (dsimp only [gP, gS]; unfold va_up; split <;> first | (rfl; done) | (exfalso; omega))
    refine ite_c (fun h_tol => ?_) (fun h_tol => ?_)
    · first | rfl | (exfalso; omega)
    refine ite_c (fun h_mod => ?_) (fun h_mod => ?_)
    · first | rfl | (exfalso; omega)
    refine ite_c (fun h_ms => ?_) (fun h_ms => ?_)
    · first | rfl | (exfalso; omega)
    refine ite_c (fun h_mk => ?_) (fun h_mk => ?_)
    · first | rfl | (exfalso; omega)
    refine ite_c (fun h_mo => ?_) (fun h_mo => ?_)
    · first | rfl | (exfalso; omega)
    refine ite_c (fun h_ma => ?_) (fun h_ma => ?_)
    · first | rfl | (exfalso; omega)
    refine ite_c (fun h_mf => ?_) (fun h_mf => ?_)
    · first | rfl | (exfalso; omega)
    refine ite_c (fun h_mt => ?_) (fun h_mt => ?_)
    · first | rfl | (exfalso; omega)
    refine ite_c (fun h_mb => ?_) (fun h_mb => ?_)
    · first | rfl | (exfalso; omega)
    refine ite_c (fun h_mz => ?_) (fun h_mz => ?_)
    · first | rfl | (exfalso; omega)
    refine ite_c (fun h_mn => ?_) (fun h_mn => ?_)
    · first | rfl | (exfalso; omega)
    refine ite_c (fun h_mv => ?_) (fun h_mv => ?_)
    · first | rfl | (exfalso; omega)
    rfl
set_option maxHeartbeats 1000000 in
theorem u_mot {G : Gl} {K : CS} {ms : Nat → Int32} {mk : Nat → Int32} {mo : Nat → Int32} {ma : Nat → Int32} {mf : Nat → Int32} {ik : Int32} {mt : Nat → Int32} {td : Nat} {fr : Nat} {tt : Nat} {vl : Int32} {wr : Int32} {mb : Nat → Int32} {mz : Nat → Int32} {mn : Nat → Int64} {mv : Nat → Int64} {mo2 : Nat → Int32}  : ∀ j, j < 104 → cel G (K, (ms, mk, mo2, ma, mf, ik, mt, td, fr, tt, vl, wr, mb, mz, mn, mv)) j = if j = 96 then ai (gcI G) 198 mo2 else cel G (K, (ms, mk, mo, ma, mf, ik, mt, td, fr, tt, vl, wr, mb, mz, mn, mv)) j := by
  intro j hj
  by_cases hjk : j = 96
  · rw [if_pos hjk, hjk]
    exact rfl
  · rw [if_neg hjk]
    unfold cel
    refine ite_c (fun h_obj => ?_) (fun h_obj => ?_)
    · first | rfl | (exfalso; omega)
    refine ite_c (fun h_par => ?_) (fun h_par => ?_)
    · first | (rfl; done) | (dsimp only [gP, gS]; unfold va_up; split <;> first | (rfl; done) | (exfalso; omega))
    refine ite_c (fun h_wea => ?_) (fun h_wea => ?_)
    · first | (rfl; done) | (dsimp only [gP, gS]; unfold va_up; split <;> first | (rfl; done) | (exfalso; omega))
    refine ite_c (fun h_sto => ?_) (fun h_sto => ?_)
    · first | (rfl; done) | (dsimp only [gP, gS]; unfold va_up; split <;> first | (rfl; done) | (exfalso; omega))
    refine ite_c (fun h_rou => ?_) (fun h_rou => ?_)
    · first | (rfl; done) | (dsimp only [gP, gS]; unfold va_up; split <;> first | (rfl; done) | (exfalso; omega))
    refine ite_c (fun h_ews => ?_) (fun h_ews => ?_)
    · first | rfl | (exfalso; omega)
    refine ite_c (fun h_cos => ?_) (fun h_cos => ?_)
    · first | rfl | (exfalso; omega)
    refine ite_c (fun h_coa => ?_) (fun h_coa => ?_)
    · first | (rfl; done) | (dsimp only [gP, gS]; unfold va_up; split <;> first | (rfl; done) | (exfalso; omega))
    refine ite_c (fun h_ewe => ?_) (fun h_ewe => ?_)
    · first | (rfl; done) | (dsimp only [gP, gS]; unfold va_up; split <;> first | (rfl; done) | (exfalso; omega))
    refine ite_c (fun h_fle => ?_) (fun h_fle => ?_)
    · first | (rfl; done) | (dsimp only [gP, gS]; unfold va_up; split <;> first | (rfl; done) | (exfalso; omega))
    refine ite_c (fun h_tap => ?_) (fun h_tap => ?_)
    · first | rfl | (exfalso; omega)
    refine ite_c (fun h_byt => ?_) (fun h_byt => ?_)
    · first | rfl | (exfalso; omega)
    refine ite_c (fun h_shs => ?_) (fun h_shs => ?_)
    · first | rfl | (exfalso; omega)
    refine ite_c (fun h_she => ?_) (fun h_she => ?_)
    · first | (rfl; done) | (dsimp only [gP, gS]; unfold va_up; split <;> first | (rfl; done) | (exfalso; omega))
    refine ite_c (fun h_num => ?_) (fun h_num => ?_)
    · first | (rfl; done) | (dsimp only [gP, gS]; unfold va_up; split <;> first | (rfl; done) | (exfalso; omega))
    refine ite_c (fun h_tol => ?_) (fun h_tol => ?_)
    · first | rfl | (exfalso; omega)
    refine ite_c (fun h_mod => ?_) (fun h_mod => ?_)
    · first | rfl | (exfalso; omega)
    refine ite_c (fun h_ms => ?_) (fun h_ms => ?_)
    · first | rfl | (exfalso; omega)
    refine ite_c (fun h_mk => ?_) (fun h_mk => ?_)
    · first | rfl | (exfalso; omega)
    refine ite_c (fun h_mo => ?_) (fun h_mo => ?_)
    · first | rfl | (exfalso; omega)
    refine ite_c (fun h_ma => ?_) (fun h_ma => ?_)
    · first | rfl | (exfalso; omega)
    refine ite_c (fun h_mf => ?_) (fun h_mf => ?_)
    · first | rfl | (exfalso; omega)
    refine ite_c (fun h_mt => ?_) (fun h_mt => ?_)
    · first | rfl | (exfalso; omega)
    refine ite_c (fun h_mb => ?_) (fun h_mb => ?_)
    · first | rfl | (exfalso; omega)
    refine ite_c (fun h_mz => ?_) (fun h_mz => ?_)
    · first | rfl | (exfalso; omega)
    refine ite_c (fun h_mn => ?_) (fun h_mn => ?_)
    · first | rfl | (exfalso; omega)
    refine ite_c (fun h_mv => ?_) (fun h_mv => ?_)
    · first | rfl | (exfalso; omega)
    rfl
set_option maxHeartbeats 1000000 in
theorem u_ma {G : Gl} {K : CS} {ms : Nat → Int32} {mk : Nat → Int32} {mo : Nat → Int32} {ma : Nat → Int32} {mf : Nat → Int32} {ik : Int32} {mt : Nat → Int32} {td : Nat} {fr : Nat} {tt : Nat} {vl : Int32} {wr : Int32} {mb : Nat → Int32} {mz : Nat → Int32} {mn : Nat → Int64} {mv : Nat → Int64} {ma2 : Nat → Int32}  : ∀ j, j < 104 → cel G (K, (ms, mk, mo, ma2, mf, ik, mt, td, fr, tt, vl, wr, mb, mz, mn, mv)) j = if j = 97 then ai (gcI G) 198 ma2 else cel G (K, (ms, mk, mo, ma, mf, ik, mt, td, fr, tt, vl, wr, mb, mz, mn, mv)) j := by
  intro j hj
  by_cases hjk : j = 97
  · rw [if_pos hjk, hjk]
    exact rfl
  · rw [if_neg hjk]
    unfold cel
    refine ite_c (fun h_obj => ?_) (fun h_obj => ?_)
    · first | rfl | (exfalso; omega)
    refine ite_c (fun h_par => ?_) (fun h_par => ?_)
    · first | (rfl; done) | (dsimp only [gP, gS]; unfold va_up; split <;> first | (rfl; done) | (exfalso; omega))
    refine ite_c (fun h_wea => ?_) (fun h_wea => ?_)
    · first | (rfl; done) | (dsimp only [gP, gS]; unfold va_up; split <;> first | (rfl; done) | (exfalso; omega))
    refine ite_c (fun h_sto => ?_) (fun h_sto => ?_)
    · first | (rfl; done) | (dsimp only [gP, gS]; unfold va_up; split <;> first | (rfl; done) | (exfalso; omega))
    refine ite_c (fun h_rou => ?_) (fun h_rou => ?_)
    · first | (rfl; done) | (dsimp only [gP, gS]; unfold va_up; split <;> first | (rfl; done) | (exfalso; omega))
    refine ite_c (fun h_ews => ?_) (fun h_ews => ?_)
    · first | rfl | (exfalso; omega)
    refine ite_c (fun h_cos => ?_) (fun h_cos => ?_)
    · first | rfl | (exfalso; omega)
    refine ite_c (fun h_coa => ?_) (fun h_coa => ?_)
    · first | (rfl; done) | (dsimp only [gP, gS]; unfold va_up; split <;> first | (rfl; done) | (exfalso; omega))
    refine ite_c (fun h_ewe => ?_) (fun h_ewe => ?_)
    · first | (rfl; done) | (dsimp only [gP, gS]; unfold va_up; split <;> first | (rfl; done) | (exfalso; omega))
    refine ite_c (fun h_fle => ?_) (fun h_fle => ?_)
    · first | (rfl; done) | (dsimp only [gP, gS]; unfold va_up; split <;> first | (rfl; done) | (exfalso; omega))
    refine ite_c (fun h_tap => ?_) (fun h_tap => ?_)
    · first | rfl | (exfalso; omega)
    refine ite_c (fun h_byt => ?_) (fun h_byt => ?_)
    · first | rfl | (exfalso; omega)
    refine ite_c (fun h_shs => ?_) (fun h_shs => ?_)
    · first | rfl | (exfalso; omega)
    refine ite_c (fun h_she => ?_) (fun h_she => ?_)
    · first | (rfl; done) | (dsimp only [gP, gS]; unfold va_up; split <;> first | (rfl; done) | (exfalso; omega))
    refine ite_c (fun h_num => ?_) (fun h_num => ?_)
    · first | (rfl; done) | (dsimp only [gP, gS]; unfold va_up; split <;> first | (rfl; done) | (exfalso; omega))
    refine ite_c (fun h_tol => ?_) (fun h_tol => ?_)
    · first | rfl | (exfalso; omega)
    refine ite_c (fun h_mod => ?_) (fun h_mod => ?_)
    · first | rfl | (exfalso; omega)
    refine ite_c (fun h_ms => ?_) (fun h_ms => ?_)
    · first | rfl | (exfalso; omega)
    refine ite_c (fun h_mk => ?_) (fun h_mk => ?_)
    · first | rfl | (exfalso; omega)
    refine ite_c (fun h_mo => ?_) (fun h_mo => ?_)
    · first | rfl | (exfalso; omega)
    refine ite_c (fun h_ma => ?_) (fun h_ma => ?_)
    · first | rfl | (exfalso; omega)
    refine ite_c (fun h_mf => ?_) (fun h_mf => ?_)
    · first | rfl | (exfalso; omega)
    refine ite_c (fun h_mt => ?_) (fun h_mt => ?_)
    · first | rfl | (exfalso; omega)
    refine ite_c (fun h_mb => ?_) (fun h_mb => ?_)
    · first | rfl | (exfalso; omega)
    refine ite_c (fun h_mz => ?_) (fun h_mz => ?_)
    · first | rfl | (exfalso; omega)
    refine ite_c (fun h_mn => ?_) (fun h_mn => ?_)
    · first | rfl | (exfalso; omega)
    refine ite_c (fun h_mv => ?_) (fun h_mv => ?_)
    · first | rfl | (exfalso; omega)
    rfl
set_option maxHeartbeats 1000000 in
theorem u_mf {G : Gl} {K : CS} {ms : Nat → Int32} {mk : Nat → Int32} {mo : Nat → Int32} {ma : Nat → Int32} {mf : Nat → Int32} {ik : Int32} {mt : Nat → Int32} {td : Nat} {fr : Nat} {tt : Nat} {vl : Int32} {wr : Int32} {mb : Nat → Int32} {mz : Nat → Int32} {mn : Nat → Int64} {mv : Nat → Int64} {mf2 : Nat → Int32}  : ∀ j, j < 104 → cel G (K, (ms, mk, mo, ma, mf2, ik, mt, td, fr, tt, vl, wr, mb, mz, mn, mv)) j = if j = 98 then ai (gcI G) 7 mf2 else cel G (K, (ms, mk, mo, ma, mf, ik, mt, td, fr, tt, vl, wr, mb, mz, mn, mv)) j := by
  intro j hj
  by_cases hjk : j = 98
  · rw [if_pos hjk, hjk]
    exact rfl
  · rw [if_neg hjk]
    unfold cel
    refine ite_c (fun h_obj => ?_) (fun h_obj => ?_)
    · first | rfl | (exfalso; omega)
    refine ite_c (fun h_par => ?_) (fun h_par => ?_)
    · first | (rfl; done) | (dsimp only [gP, gS]; unfold va_up; split <;> first | (rfl; done) | (exfalso; omega))
    refine ite_c (fun h_wea => ?_) (fun h_wea => ?_)
    · first | (rfl; done) | (dsimp only [gP, gS]; unfold va_up; split <;> first | (rfl; done) | (exfalso; omega))
    refine ite_c (fun h_sto => ?_) (fun h_sto => ?_)
    · first | (rfl; done) | (dsimp only [gP, gS]; unfold va_up; split <;> first | (rfl; done) | (exfalso; omega))
    refine ite_c (fun h_rou => ?_) (fun h_rou => ?_)
    · first | (rfl; done) | (dsimp only [gP, gS]; unfold va_up; split <;> first | (rfl; done) | (exfalso; omega))
    refine ite_c (fun h_ews => ?_) (fun h_ews => ?_)
    · first | rfl | (exfalso; omega)
    refine ite_c (fun h_cos => ?_) (fun h_cos => ?_)
    · first | rfl | (exfalso; omega)
    refine ite_c (fun h_coa => ?_) (fun h_coa => ?_)
    · first | (rfl; done) | (dsimp only [gP, gS]; unfold va_up; split <;> first | (rfl; done) | (exfalso; omega))
    refine ite_c (fun h_ewe => ?_) (fun h_ewe => ?_)
    · first | (rfl; done) | (dsimp only [gP, gS]; unfold va_up; split <;> first | (rfl; done) | (exfalso; omega))
    refine ite_c (fun h_fle => ?_) (fun h_fle => ?_)
    · first | (rfl; done) | (dsimp only [gP, gS]; unfold va_up; split <;> first | (rfl; done) | (exfalso; omega))
    refine ite_c (fun h_tap => ?_) (fun h_tap => ?_)
    · first | rfl | (exfalso; omega)
    refine ite_c (fun h_byt => ?_) (fun h_byt => ?_)
    · first | rfl | (exfalso; omega)
    refine ite_c (fun h_shs => ?_) (fun h_shs => ?_)
    · first | rfl | (exfalso; omega)
    refine ite_c (fun h_she => ?_) (fun h_she => ?_)
    · first | (rfl; done) | (dsimp only [gP, gS]; unfold va_up; split <;> first | (rfl; done) | (exfalso; omega))
    refine ite_c (fun h_num => ?_) (fun h_num => ?_)
    · first | (rfl; done) | (dsimp only [gP, gS]; unfold va_up; split <;> first | (rfl; done) | (exfalso; omega))
    refine ite_c (fun h_tol => ?_) (fun h_tol => ?_)
    · first | rfl | (exfalso; omega)
    refine ite_c (fun h_mod => ?_) (fun h_mod => ?_)
    · first | rfl | (exfalso; omega)
    refine ite_c (fun h_ms => ?_) (fun h_ms => ?_)
    · first | rfl | (exfalso; omega)
    refine ite_c (fun h_mk => ?_) (fun h_mk => ?_)
    · first | rfl | (exfalso; omega)
    refine ite_c (fun h_mo => ?_) (fun h_mo => ?_)
    · first | rfl | (exfalso; omega)
    refine ite_c (fun h_ma => ?_) (fun h_ma => ?_)
    · first | rfl | (exfalso; omega)
    refine ite_c (fun h_mf => ?_) (fun h_mf => ?_)
    · first | rfl | (exfalso; omega)
    refine ite_c (fun h_mt => ?_) (fun h_mt => ?_)
    · first | rfl | (exfalso; omega)
    refine ite_c (fun h_mb => ?_) (fun h_mb => ?_)
    · first | rfl | (exfalso; omega)
    refine ite_c (fun h_mz => ?_) (fun h_mz => ?_)
    · first | rfl | (exfalso; omega)
    refine ite_c (fun h_mn => ?_) (fun h_mn => ?_)
    · first | rfl | (exfalso; omega)
    refine ite_c (fun h_mv => ?_) (fun h_mv => ?_)
    · first | rfl | (exfalso; omega)
    rfl
set_option maxHeartbeats 1000000 in
theorem u_mt {G : Gl} {K : CS} {ms : Nat → Int32} {mk : Nat → Int32} {mo : Nat → Int32} {ma : Nat → Int32} {mf : Nat → Int32} {ik : Int32} {mt : Nat → Int32} {td : Nat} {fr : Nat} {tt : Nat} {vl : Int32} {wr : Int32} {mb : Nat → Int32} {mz : Nat → Int32} {mn : Nat → Int64} {mv : Nat → Int64} {mt2 : Nat → Int32}  : ∀ j, j < 104 → cel G (K, (ms, mk, mo, ma, mf, ik, mt2, td, fr, tt, vl, wr, mb, mz, mn, mv)) j = if j = 99 then ai (gcI G) 120 mt2 else cel G (K, (ms, mk, mo, ma, mf, ik, mt, td, fr, tt, vl, wr, mb, mz, mn, mv)) j := by
  intro j hj
  by_cases hjk : j = 99
  · rw [if_pos hjk, hjk]
    exact rfl
  · rw [if_neg hjk]
    unfold cel
    refine ite_c (fun h_obj => ?_) (fun h_obj => ?_)
    · first | rfl | (exfalso; omega)
    refine ite_c (fun h_par => ?_) (fun h_par => ?_)
    · first | (rfl; done) | (dsimp only [gP, gS]; unfold va_up; split <;> first | (rfl; done) | (exfalso; omega))
    refine ite_c (fun h_wea => ?_) (fun h_wea => ?_)
    · first | (rfl; done) | (dsimp only [gP, gS]; unfold va_up; split <;> first | (rfl; done) | (exfalso; omega))
    refine ite_c (fun h_sto => ?_) (fun h_sto => ?_)
    · first | (rfl; done) | (dsimp only [gP, gS]; unfold va_up; split <;> first | (rfl; done) | (exfalso; omega))
    refine ite_c (fun h_rou => ?_) (fun h_rou => ?_)
    · first | (rfl; done) | (dsimp only [gP, gS]; unfold va_up; split <;> first | (rfl; done) | (exfalso; omega))
    refine ite_c (fun h_ews => ?_) (fun h_ews => ?_)
    · first | rfl | (exfalso; omega)
    refine ite_c (fun h_cos => ?_) (fun h_cos => ?_)
    · first | rfl | (exfalso; omega)
    refine ite_c (fun h_coa => ?_) (fun h_coa => ?_)
    · first | (rfl; done) | (dsimp only [gP, gS]; unfold va_up; split <;> first | (rfl; done) | (exfalso; omega))
    refine ite_c (fun h_ewe => ?_) (fun h_ewe => ?_)
    · first | (rfl; done) | (dsimp only [gP, gS]; unfold va_up; split <;> first | (rfl; done) | (exfalso; omega))
    refine ite_c (fun h_fle => ?_) (fun h_fle => ?_)
    · first | (rfl; done) | (dsimp only [gP, gS]; unfold va_up; split <;> first | (rfl; done) | (exfalso; omega))
    refine ite_c (fun h_tap => ?_) (fun h_tap => ?_)
    · first | rfl | (exfalso; omega)
    refine ite_c (fun h_byt => ?_) (fun h_byt => ?_)
    · first | rfl | (exfalso; omega)
    refine ite_c (fun h_shs => ?_) (fun h_shs => ?_)
    · first | rfl | (exfalso; omega)
    refine ite_c (fun h_she => ?_) (fun h_she => ?_)
    · first | (rfl; done) | (dsimp only [gP, gS]; unfold va_up; split <;> first | (rfl; done) | (exfalso; omega))
    refine ite_c (fun h_num => ?_) (fun h_num => ?_)
    · first | (rfl; done) | (dsimp only [gP, gS]; unfold va_up; split <;> first | (rfl; done) | (exfalso; omega))
    refine ite_c (fun h_tol => ?_) (fun h_tol => ?_)
    · first | rfl | (exfalso; omega)
    refine ite_c (fun h_mod => ?_) (fun h_mod => ?_)
    · first | rfl | (exfalso; omega)
    refine ite_c (fun h_ms => ?_) (fun h_ms => ?_)
    · first | rfl | (exfalso; omega)
    refine ite_c (fun h_mk => ?_) (fun h_mk => ?_)
    · first | rfl | (exfalso; omega)
    refine ite_c (fun h_mo => ?_) (fun h_mo => ?_)
    · first | rfl | (exfalso; omega)
    refine ite_c (fun h_ma => ?_) (fun h_ma => ?_)
    · first | rfl | (exfalso; omega)
    refine ite_c (fun h_mf => ?_) (fun h_mf => ?_)
    · first | rfl | (exfalso; omega)
    refine ite_c (fun h_mt => ?_) (fun h_mt => ?_)
    · first | rfl | (exfalso; omega)
    refine ite_c (fun h_mb => ?_) (fun h_mb => ?_)
    · first | rfl | (exfalso; omega)
    refine ite_c (fun h_mz => ?_) (fun h_mz => ?_)
    · first | rfl | (exfalso; omega)
    refine ite_c (fun h_mn => ?_) (fun h_mn => ?_)
    · first | rfl | (exfalso; omega)
    refine ite_c (fun h_mv => ?_) (fun h_mv => ?_)
    · first | rfl | (exfalso; omega)
    rfl
set_option maxHeartbeats 1000000 in
theorem u_mb {G : Gl} {K : CS} {ms : Nat → Int32} {mk : Nat → Int32} {mo : Nat → Int32} {ma : Nat → Int32} {mf : Nat → Int32} {ik : Int32} {mt : Nat → Int32} {td : Nat} {fr : Nat} {tt : Nat} {vl : Int32} {wr : Int32} {mb : Nat → Int32} {mz : Nat → Int32} {mn : Nat → Int64} {mv : Nat → Int64} {mb2 : Nat → Int32}  : ∀ j, j < 104 → cel G (K, (ms, mk, mo, ma, mf, ik, mt, td, fr, tt, vl, wr, mb2, mz, mn, mv)) j = if j = 100 then ai (gcI G) 4 mb2 else cel G (K, (ms, mk, mo, ma, mf, ik, mt, td, fr, tt, vl, wr, mb, mz, mn, mv)) j := by
  intro j hj
  by_cases hjk : j = 100
  · rw [if_pos hjk, hjk]
    exact rfl
  · rw [if_neg hjk]
    unfold cel
    refine ite_c (fun h_obj => ?_) (fun h_obj => ?_)
    · first | rfl | (exfalso; omega)
    refine ite_c (fun h_par => ?_) (fun h_par => ?_)
    · first | (rfl; done) | (dsimp only [gP, gS]; unfold va_up; split <;> first | (rfl; done) | (exfalso; omega))
    refine ite_c (fun h_wea => ?_) (fun h_wea => ?_)
    · first | (rfl; done) | (dsimp only [gP, gS]; unfold va_up; split <;> first | (rfl; done) | (exfalso; omega))
    refine ite_c (fun h_sto => ?_) (fun h_sto => ?_)
    · first | (rfl; done) | (dsimp only [gP, gS]; unfold va_up; split <;> first | (rfl; done) | (exfalso; omega))
    refine ite_c (fun h_rou => ?_) (fun h_rou => ?_)
    · first | (rfl; done) | (dsimp only [gP, gS]; unfold va_up; split <;> first | (rfl; done) | (exfalso; omega))
    refine ite_c (fun h_ews => ?_) (fun h_ews => ?_)
    · first | rfl | (exfalso; omega)
    refine ite_c (fun h_cos => ?_) (fun h_cos => ?_)
    · first | rfl | (exfalso; omega)
    refine ite_c (fun h_coa => ?_) (fun h_coa => ?_)
    · first | (rfl; done) | (dsimp only [gP, gS]; unfold va_up; split <;> first | (rfl; done) | (exfalso; omega))
    refine ite_c (fun h_ewe => ?_) (fun h_ewe => ?_)
    · first | (rfl; done) | (dsimp only [gP, gS]; unfold va_up; split <;> first | (rfl; done) | (exfalso; omega))
    refine ite_c (fun h_fle => ?_) (fun h_fle => ?_)
    · first | (rfl; done) | (dsimp only [gP, gS]; unfold va_up; split <;> first | (rfl; done) | (exfalso; omega))
    refine ite_c (fun h_tap => ?_) (fun h_tap => ?_)
    · first | rfl | (exfalso; omega)
    refine ite_c (fun h_byt => ?_) (fun h_byt => ?_)
    · first | rfl | (exfalso; omega)
    refine ite_c (fun h_shs => ?_) (fun h_shs => ?_)
    · first | rfl | (exfalso; omega)
    refine ite_c (fun h_she => ?_) (fun h_she => ?_)
    · first | (rfl; done) | (dsimp only [gP, gS]; unfold va_up; split <;> first | (rfl; done) | (exfalso; omega))
    refine ite_c (fun h_num => ?_) (fun h_num => ?_)
    · first | (rfl; done) | (dsimp only [gP, gS]; unfold va_up; split <;> first | (rfl; done) | (exfalso; omega))
    refine ite_c (fun h_tol => ?_) (fun h_tol => ?_)
    · first | rfl | (exfalso; omega)
    refine ite_c (fun h_mod => ?_) (fun h_mod => ?_)
    · first | rfl | (exfalso; omega)
    refine ite_c (fun h_ms => ?_) (fun h_ms => ?_)
    · first | rfl | (exfalso; omega)
    refine ite_c (fun h_mk => ?_) (fun h_mk => ?_)
    · first | rfl | (exfalso; omega)
    refine ite_c (fun h_mo => ?_) (fun h_mo => ?_)
    · first | rfl | (exfalso; omega)
    refine ite_c (fun h_ma => ?_) (fun h_ma => ?_)
    · first | rfl | (exfalso; omega)
    refine ite_c (fun h_mf => ?_) (fun h_mf => ?_)
    · first | rfl | (exfalso; omega)
    refine ite_c (fun h_mt => ?_) (fun h_mt => ?_)
    · first | rfl | (exfalso; omega)
    refine ite_c (fun h_mb => ?_) (fun h_mb => ?_)
    · first | rfl | (exfalso; omega)
    refine ite_c (fun h_mz => ?_) (fun h_mz => ?_)
    · first | rfl | (exfalso; omega)
    refine ite_c (fun h_mn => ?_) (fun h_mn => ?_)
    · first | rfl | (exfalso; omega)
    refine ite_c (fun h_mv => ?_) (fun h_mv => ?_)
    · first | rfl | (exfalso; omega)
    rfl
set_option maxHeartbeats 1000000 in
theorem u_mz {G : Gl} {K : CS} {ms : Nat → Int32} {mk : Nat → Int32} {mo : Nat → Int32} {ma : Nat → Int32} {mf : Nat → Int32} {ik : Int32} {mt : Nat → Int32} {td : Nat} {fr : Nat} {tt : Nat} {vl : Int32} {wr : Int32} {mb : Nat → Int32} {mz : Nat → Int32} {mn : Nat → Int64} {mv : Nat → Int64} {mz2 : Nat → Int32}  : ∀ j, j < 104 → cel G (K, (ms, mk, mo, ma, mf, ik, mt, td, fr, tt, vl, wr, mb, mz2, mn, mv)) j = if j = 101 then ai (gcI G) 4 mz2 else cel G (K, (ms, mk, mo, ma, mf, ik, mt, td, fr, tt, vl, wr, mb, mz, mn, mv)) j := by
  intro j hj
  by_cases hjk : j = 101
  · rw [if_pos hjk, hjk]
    exact rfl
  · rw [if_neg hjk]
    unfold cel
    refine ite_c (fun h_obj => ?_) (fun h_obj => ?_)
    · first | rfl | (exfalso; omega)
    refine ite_c (fun h_par => ?_) (fun h_par => ?_)
    · first | (rfl; done) | (dsimp only [gP, gS]; unfold va_up; split <;> first | (rfl; done) | (exfalso; omega))
    refine ite_c (fun h_wea => ?_) (fun h_wea => ?_)
    · first | (rfl; done) | (dsimp only [gP, gS]; unfold va_up; split <;> first | (rfl; done) | (exfalso; omega))
    refine ite_c (fun h_sto => ?_) (fun h_sto => ?_)
    · first | (rfl; done) | (dsimp only [gP, gS]; unfold va_up; split <;> first | (rfl; done) | (exfalso; omega))
    refine ite_c (fun h_rou => ?_) (fun h_rou => ?_)
    · first | (rfl; done) | (dsimp only [gP, gS]; unfold va_up; split <;> first | (rfl; done) | (exfalso; omega))
    refine ite_c (fun h_ews => ?_) (fun h_ews => ?_)
    · first | rfl | (exfalso; omega)
    refine ite_c (fun h_cos => ?_) (fun h_cos => ?_)
    · first | rfl | (exfalso; omega)
    refine ite_c (fun h_coa => ?_) (fun h_coa => ?_)
    · first | (rfl; done) | (dsimp only [gP, gS]; unfold va_up; split <;> first | (rfl; done) | (exfalso; omega))
    refine ite_c (fun h_ewe => ?_) (fun h_ewe => ?_)
    · first | (rfl; done) | (dsimp only [gP, gS]; unfold va_up; split <;> first | (rfl; done) | (exfalso; omega))
    refine ite_c (fun h_fle => ?_) (fun h_fle => ?_)
    · first | (rfl; done) | (dsimp only [gP, gS]; unfold va_up; split <;> first | (rfl; done) | (exfalso; omega))
    refine ite_c (fun h_tap => ?_) (fun h_tap => ?_)
    · first | rfl | (exfalso; omega)
    refine ite_c (fun h_byt => ?_) (fun h_byt => ?_)
    · first | rfl | (exfalso; omega)
    refine ite_c (fun h_shs => ?_) (fun h_shs => ?_)
    · first | rfl | (exfalso; omega)
    refine ite_c (fun h_she => ?_) (fun h_she => ?_)
    · first | (rfl; done) | (dsimp only [gP, gS]; unfold va_up; split <;> first | (rfl; done) | (exfalso; omega))
    refine ite_c (fun h_num => ?_) (fun h_num => ?_)
    · first | (rfl; done) | (dsimp only [gP, gS]; unfold va_up; split <;> first | (rfl; done) | (exfalso; omega))
    refine ite_c (fun h_tol => ?_) (fun h_tol => ?_)
    · first | rfl | (exfalso; omega)
    refine ite_c (fun h_mod => ?_) (fun h_mod => ?_)
    · first | rfl | (exfalso; omega)
    refine ite_c (fun h_ms => ?_) (fun h_ms => ?_)
    · first | rfl | (exfalso; omega)
    refine ite_c (fun h_mk => ?_) (fun h_mk => ?_)
    · first | rfl | (exfalso; omega)
    refine ite_c (fun h_mo => ?_) (fun h_mo => ?_)
    · first | rfl | (exfalso; omega)
    refine ite_c (fun h_ma => ?_) (fun h_ma => ?_)
    · first | rfl | (exfalso; omega)
    refine ite_c (fun h_mf => ?_) (fun h_mf => ?_)
    · first | rfl | (exfalso; omega)
    refine ite_c (fun h_mt => ?_) (fun h_mt => ?_)
    · first | rfl | (exfalso; omega)
    refine ite_c (fun h_mb => ?_) (fun h_mb => ?_)
    · first | rfl | (exfalso; omega)
    refine ite_c (fun h_mz => ?_) (fun h_mz => ?_)
    · first | rfl | (exfalso; omega)
    refine ite_c (fun h_mn => ?_) (fun h_mn => ?_)
    · first | rfl | (exfalso; omega)
    refine ite_c (fun h_mv => ?_) (fun h_mv => ?_)
    · first | rfl | (exfalso; omega)
    rfl
set_option maxHeartbeats 1000000 in
theorem u_mn {G : Gl} {K : CS} {ms : Nat → Int32} {mk : Nat → Int32} {mo : Nat → Int32} {ma : Nat → Int32} {mf : Nat → Int32} {ik : Int32} {mt : Nat → Int32} {td : Nat} {fr : Nat} {tt : Nat} {vl : Int32} {wr : Int32} {mb : Nat → Int32} {mz : Nat → Int32} {mn : Nat → Int64} {mv : Nat → Int64} {mn2 : Nat → Int64}  : ∀ j, j < 104 → cel G (K, (ms, mk, mo, ma, mf, ik, mt, td, fr, tt, vl, wr, mb, mz, mn2, mv)) j = if j = 102 then aj (gcJ G) 160 mn2 else cel G (K, (ms, mk, mo, ma, mf, ik, mt, td, fr, tt, vl, wr, mb, mz, mn, mv)) j := by
  intro j hj
  by_cases hjk : j = 102
  · rw [if_pos hjk, hjk]
    exact rfl
  · rw [if_neg hjk]
    unfold cel
    refine ite_c (fun h_obj => ?_) (fun h_obj => ?_)
    · first | rfl | (exfalso; omega)
    refine ite_c (fun h_par => ?_) (fun h_par => ?_)
    · first | (rfl; done) | (dsimp only [gP, gS]; unfold va_up; split <;> first | (rfl; done) | (exfalso; omega))
    refine ite_c (fun h_wea => ?_) (fun h_wea => ?_)
    · first | (rfl; done) | (dsimp only [gP, gS]; unfold va_up; split <;> first | (rfl; done) | (exfalso; omega))
    refine ite_c (fun h_sto => ?_) (fun h_sto => ?_)
    · first | (rfl; done) | (dsimp only [gP, gS]; unfold va_up; split <;> first | (rfl; done) | (exfalso; omega))
    refine ite_c (fun h_rou => ?_) (fun h_rou => ?_)
    · first | (rfl; done) | (dsimp only [gP, gS]; unfold va_up; split <;> first | (rfl; done) | (exfalso; omega))
    refine ite_c (fun h_ews => ?_) (fun h_ews => ?_)
    · first | rfl | (exfalso; omega)
    refine ite_c (fun h_cos => ?_) (fun h_cos => ?_)
    · first | rfl | (exfalso; omega)
    refine ite_c (fun h_coa => ?_) (fun h_coa => ?_)
    · first | (rfl; done) | (dsimp only [gP, gS]; unfold va_up; split <;> first | (rfl; done) | (exfalso; omega))
    refine ite_c (fun h_ewe => ?_) (fun h_ewe => ?_)
    · first | (rfl; done) | (dsimp only [gP, gS]; unfold va_up; split <;> first | (rfl; done) | (exfalso; omega))
    refine ite_c (fun h_fle => ?_) (fun h_fle => ?_)
    · first | (rfl; done) | (dsimp only [gP, gS]; unfold va_up; split <;> first | (rfl; done) | (exfalso; omega))
    refine ite_c (fun h_tap => ?_) (fun h_tap => ?_)
    · first | rfl | (exfalso; omega)
    refine ite_c (fun h_byt => ?_) (fun h_byt => ?_)
    · first | rfl | (exfalso; omega)
    refine ite_c (fun h_shs => ?_) (fun h_shs => ?_)
    · first | rfl | (exfalso; omega)
    refine ite_c (fun h_she => ?_) (fun h_she => ?_)
    · first | (rfl; done) | (dsimp only [gP, gS]; unfold va_up; split <;> first | (rfl; done) | (exfalso; omega))
    refine ite_c (fun h_num => ?_) (fun h_num => ?_)
    · first | (rfl; done) | (dsimp only [gP, gS]; unfold va_up; split <;> first | (rfl; done) | (exfalso; omega))
    refine ite_c (fun h_tol => ?_) (fun h_tol => ?_)
    · first | rfl | (exfalso; omega)
    refine ite_c (fun h_mod => ?_) (fun h_mod => ?_)
    · first | rfl | (exfalso; omega)
    refine ite_c (fun h_ms => ?_) (fun h_ms => ?_)
    · first | rfl | (exfalso; omega)
    refine ite_c (fun h_mk => ?_) (fun h_mk => ?_)
    · first | rfl | (exfalso; omega)
    refine ite_c (fun h_mo => ?_) (fun h_mo => ?_)
    · first | rfl | (exfalso; omega)
    refine ite_c (fun h_ma => ?_) (fun h_ma => ?_)
    · first | rfl | (exfalso; omega)
    refine ite_c (fun h_mf => ?_) (fun h_mf => ?_)
    · first | rfl | (exfalso; omega)
    refine ite_c (fun h_mt => ?_) (fun h_mt => ?_)
    · first | rfl | (exfalso; omega)
    refine ite_c (fun h_mb => ?_) (fun h_mb => ?_)
    · first | rfl | (exfalso; omega)
    refine ite_c (fun h_mz => ?_) (fun h_mz => ?_)
    · first | rfl | (exfalso; omega)
    refine ite_c (fun h_mn => ?_) (fun h_mn => ?_)
    · first | rfl | (exfalso; omega)
    refine ite_c (fun h_mv => ?_) (fun h_mv => ?_)
    · first | rfl | (exfalso; omega)
    rfl
set_option maxHeartbeats 1000000 in
theorem u_mv {G : Gl} {K : CS} {ms : Nat → Int32} {mk : Nat → Int32} {mo : Nat → Int32} {ma : Nat → Int32} {mf : Nat → Int32} {ik : Int32} {mt : Nat → Int32} {td : Nat} {fr : Nat} {tt : Nat} {vl : Int32} {wr : Int32} {mb : Nat → Int32} {mz : Nat → Int32} {mn : Nat → Int64} {mv : Nat → Int64} {mv2 : Nat → Int64}  : ∀ j, j < 104 → cel G (K, (ms, mk, mo, ma, mf, ik, mt, td, fr, tt, vl, wr, mb, mz, mn, mv2)) j = if j = 103 then aj (gcJ G) 40 mv2 else cel G (K, (ms, mk, mo, ma, mf, ik, mt, td, fr, tt, vl, wr, mb, mz, mn, mv)) j := by
  intro j hj
  by_cases hjk : j = 103
  · rw [if_pos hjk, hjk]
    exact rfl
  · rw [if_neg hjk]
    unfold cel
    refine ite_c (fun h_obj => ?_) (fun h_obj => ?_)
    · first | rfl | (exfalso; omega)
    refine ite_c (fun h_par => ?_) (fun h_par => ?_)
    · first | (rfl; done) | (dsimp only [gP, gS]; unfold va_up; split <;> first | (rfl; done) | (exfalso; omega))
    refine ite_c (fun h_wea => ?_) (fun h_wea => ?_)
    · first | (rfl; done) | (dsimp only [gP, gS]; unfold va_up; split <;> first | (rfl; done) | (exfalso; omega))
    refine ite_c (fun h_sto => ?_) (fun h_sto => ?_)
    · first | (rfl; done) | (dsimp only [gP, gS]; unfold va_up; split <;> first | (rfl; done) | (exfalso; omega))
    refine ite_c (fun h_rou => ?_) (fun h_rou => ?_)
    · first | (rfl; done) | (dsimp only [gP, gS]; unfold va_up; split <;> first | (rfl; done) | (exfalso; omega))
    refine ite_c (fun h_ews => ?_) (fun h_ews => ?_)
    · first | rfl | (exfalso; omega)
    refine ite_c (fun h_cos => ?_) (fun h_cos => ?_)
    · first | rfl | (exfalso; omega)
    refine ite_c (fun h_coa => ?_) (fun h_coa => ?_)
    · first | (rfl; done) | (dsimp only [gP, gS]; unfold va_up; split <;> first | (rfl; done) | (exfalso; omega))
    refine ite_c (fun h_ewe => ?_) (fun h_ewe => ?_)
    · first | (rfl; done) | (dsimp only [gP, gS]; unfold va_up; split <;> first | (rfl; done) | (exfalso; omega))
    refine ite_c (fun h_fle => ?_) (fun h_fle => ?_)
    · first | (rfl; done) | (dsimp only [gP, gS]; unfold va_up; split <;> first | (rfl; done) | (exfalso; omega))
    refine ite_c (fun h_tap => ?_) (fun h_tap => ?_)
    · first | rfl | (exfalso; omega)
    refine ite_c (fun h_byt => ?_) (fun h_byt => ?_)
    · first | rfl | (exfalso; omega)
    refine ite_c (fun h_shs => ?_) (fun h_shs => ?_)
    · first | rfl | (exfalso; omega)
    refine ite_c (fun h_she => ?_) (fun h_she => ?_)
    · first | (rfl; done) | (dsimp only [gP, gS]; unfold va_up; split <;> first | (rfl; done) | (exfalso; omega))
    refine ite_c (fun h_num => ?_) (fun h_num => ?_)
    · first | (rfl; done) | (dsimp only [gP, gS]; unfold va_up; split <;> first | (rfl; done) | (exfalso; omega))
    refine ite_c (fun h_tol => ?_) (fun h_tol => ?_)
    · first | rfl | (exfalso; omega)
    refine ite_c (fun h_mod => ?_) (fun h_mod => ?_)
    · first | rfl | (exfalso; omega)
    refine ite_c (fun h_ms => ?_) (fun h_ms => ?_)
    · first | rfl | (exfalso; omega)
    refine ite_c (fun h_mk => ?_) (fun h_mk => ?_)
    · first | rfl | (exfalso; omega)
    refine ite_c (fun h_mo => ?_) (fun h_mo => ?_)
    · first | rfl | (exfalso; omega)
    refine ite_c (fun h_ma => ?_) (fun h_ma => ?_)
    · first | rfl | (exfalso; omega)
    refine ite_c (fun h_mf => ?_) (fun h_mf => ?_)
    · first | rfl | (exfalso; omega)
    refine ite_c (fun h_mt => ?_) (fun h_mt => ?_)
    · first | rfl | (exfalso; omega)
    refine ite_c (fun h_mb => ?_) (fun h_mb => ?_)
    · first | rfl | (exfalso; omega)
    refine ite_c (fun h_mz => ?_) (fun h_mz => ?_)
    · first | rfl | (exfalso; omega)
    refine ite_c (fun h_mn => ?_) (fun h_mn => ?_)
    · first | rfl | (exfalso; omega)
    refine ite_c (fun h_mv => ?_) (fun h_mv => ?_)
    · first | rfl | (exfalso; omega)
    rfl
end
