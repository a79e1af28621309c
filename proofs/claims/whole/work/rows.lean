section
/-- a private method of a class that the tables say can be made, by its rows of tables_1 -/
def lw_okq (q : MethodName × Nat) : Prop := (q.1.cls ≠ "java/lang/invoke/MethodHandle" ∧ q.1.cls ≠ "java/lang/invoke/VarHandle") ∧ Cond.instantiable q.1.cls q.2 ∈ tables_1 ∧ Cond.privateMethod q.1 ∈ tables_1 ∧ Cond.instanceMethod q.1 ∈ tables_1
theorem lw_p0 : lw_okq (⟨"TrueMaps", "finding", "(I)I"⟩, 7) := ⟨⟨by decide +kernel, by decide +kernel⟩, List.mem_of_getElem? (i := 14) (by decide +kernel), List.mem_of_getElem? (i := 153) (by decide +kernel), List.mem_of_getElem? (i := 154) (by decide +kernel)⟩
theorem lw_p1 : lw_okq (⟨"TrueMaps", "noMender", "(I)Z"⟩, 7) := ⟨⟨by decide +kernel, by decide +kernel⟩, List.mem_of_getElem? (i := 14) (by decide +kernel), List.mem_of_getElem? (i := 217) (by decide +kernel), List.mem_of_getElem? (i := 218) (by decide +kernel)⟩
theorem lw_p2 : lw_okq (⟨"TrueMaps", "firstYearWithout", "(J)I"⟩, 7) := ⟨⟨by decide +kernel, by decide +kernel⟩, List.mem_of_getElem? (i := 14) (by decide +kernel), List.mem_of_getElem? (i := 346) (by decide +kernel), List.mem_of_getElem? (i := 347) (by decide +kernel)⟩
theorem lw_p3 : lw_okq (⟨"TrueMaps", "bestPair", "(I)I"⟩, 7) := ⟨⟨by decide +kernel, by decide +kernel⟩, List.mem_of_getElem? (i := 14) (by decide +kernel), List.mem_of_getElem? (i := 375) (by decide +kernel), List.mem_of_getElem? (i := 376) (by decide +kernel)⟩
theorem lw_p4 : lw_okq (⟨"TrueMaps", "tryPurse", "(II)V"⟩, 7) := ⟨⟨by decide +kernel, by decide +kernel⟩, List.mem_of_getElem? (i := 14) (by decide +kernel), List.mem_of_getElem? (i := 393) (by decide +kernel), List.mem_of_getElem? (i := 394) (by decide +kernel)⟩
theorem lw_p5 : lw_okq (⟨"TrueMaps", "trialGoesAs", "(LTrueMaps$Sheet;)Z"⟩, 7) := ⟨⟨by decide +kernel, by decide +kernel⟩, List.mem_of_getElem? (i := 14) (by decide +kernel), List.mem_of_getElem? (i := 595) (by decide +kernel), List.mem_of_getElem? (i := 596) (by decide +kernel)⟩
theorem lw_p6 : lw_okq (⟨"TrueMapsModel", "becomes", "(II)I"⟩, 19) := ⟨⟨by decide +kernel, by decide +kernel⟩, List.mem_of_getElem? (i := 622) (by decide +kernel), List.mem_of_getElem? (i := 698) (by decide +kernel), List.mem_of_getElem? (i := 699) (by decide +kernel)⟩
theorem lw_p7 : lw_okq (⟨"TrueMapsModel", "finds", "(I)I"⟩, 19) := ⟨⟨by decide +kernel, by decide +kernel⟩, List.mem_of_getElem? (i := 622) (by decide +kernel), List.mem_of_getElem? (i := 703) (by decide +kernel), List.mem_of_getElem? (i := 704) (by decide +kernel)⟩
theorem lw_p8 : lw_okq (⟨"TrueMapsModel", "isUntrue", "(I)Z"⟩, 19) := ⟨⟨by decide +kernel, by decide +kernel⟩, List.mem_of_getElem? (i := 622) (by decide +kernel), List.mem_of_getElem? (i := 712) (by decide +kernel), List.mem_of_getElem? (i := 713) (by decide +kernel)⟩
theorem lw_p9 : lw_okq (⟨"TrueMapsModel", "wrongBeside", "(I)I"⟩, 19) := ⟨⟨by decide +kernel, by decide +kernel⟩, List.mem_of_getElem? (i := 622) (by decide +kernel), List.mem_of_getElem? (i := 716) (by decide +kernel), List.mem_of_getElem? (i := 717) (by decide +kernel)⟩
theorem lw_p10 : lw_okq (⟨"TrueMapsModel", "thoseAt", "(I)I"⟩, 19) := ⟨⟨by decide +kernel, by decide +kernel⟩, List.mem_of_getElem? (i := 622) (by decide +kernel), List.mem_of_getElem? (i := 723) (by decide +kernel), List.mem_of_getElem? (i := 724) (by decide +kernel)⟩
theorem lw_p11 : lw_okq (⟨"TrueMapsModel", "its", "(II)I"⟩, 19) := ⟨⟨by decide +kernel, by decide +kernel⟩, List.mem_of_getElem? (i := 622) (by decide +kernel), List.mem_of_getElem? (i := 727) (by decide +kernel), List.mem_of_getElem? (i := 728) (by decide +kernel)⟩
theorem lw_p12 : lw_okq (⟨"TrueMapsModel", "adds", "(II)I"⟩, 19) := ⟨⟨by decide +kernel, by decide +kernel⟩, List.mem_of_getElem? (i := 622) (by decide +kernel), List.mem_of_getElem? (i := 752) (by decide +kernel), List.mem_of_getElem? (i := 753) (by decide +kernel)⟩
theorem lw_p13 : lw_okq (⟨"TrueMapsModel", "isMender", "(I)Z"⟩, 19) := ⟨⟨by decide +kernel, by decide +kernel⟩, List.mem_of_getElem? (i := 622) (by decide +kernel), List.mem_of_getElem? (i := 760) (by decide +kernel), List.mem_of_getElem? (i := 761) (by decide +kernel)⟩
theorem lw_p14 : lw_okq (⟨"TrueMapsModel", "goesFor", "(I)I"⟩, 19) := ⟨⟨by decide +kernel, by decide +kernel⟩, List.mem_of_getElem? (i := 622) (by decide +kernel), List.mem_of_getElem? (i := 764) (by decide +kernel), List.mem_of_getElem? (i := 765) (by decide +kernel)⟩
theorem lw_p15 : lw_okq (⟨"TrueMapsModel", "costOf", "(II)I"⟩, 19) := ⟨⟨by decide +kernel, by decide +kernel⟩, List.mem_of_getElem? (i := 622) (by decide +kernel), List.mem_of_getElem? (i := 768) (by decide +kernel), List.mem_of_getElem? (i := 769) (by decide +kernel)⟩
def lw_privs_1 : List (MethodName × Nat) := [(⟨"TrueMaps", "finding", "(I)I"⟩, 7), (⟨"TrueMaps", "noMender", "(I)Z"⟩, 7), (⟨"TrueMaps", "firstYearWithout", "(J)I"⟩, 7), (⟨"TrueMaps", "bestPair", "(I)I"⟩, 7), (⟨"TrueMaps", "tryPurse", "(II)V"⟩, 7), (⟨"TrueMaps", "trialGoesAs", "(LTrueMaps$Sheet;)Z"⟩, 7), (⟨"TrueMapsModel", "becomes", "(II)I"⟩, 19), (⟨"TrueMapsModel", "finds", "(I)I"⟩, 19), (⟨"TrueMapsModel", "isUntrue", "(I)Z"⟩, 19), (⟨"TrueMapsModel", "wrongBeside", "(I)I"⟩, 19), (⟨"TrueMapsModel", "thoseAt", "(I)I"⟩, 19), (⟨"TrueMapsModel", "its", "(II)I"⟩, 19), (⟨"TrueMapsModel", "adds", "(II)I"⟩, 19), (⟨"TrueMapsModel", "isMender", "(I)Z"⟩, 19), (⟨"TrueMapsModel", "goesFor", "(I)I"⟩, 19), (⟨"TrueMapsModel", "costOf", "(II)I"⟩, 19)]
theorem lw_r1 : ∀ q ∈ lw_privs_1, lw_okq q := List.forall_mem_cons.mpr ⟨lw_p0, List.forall_mem_cons.mpr ⟨lw_p1, List.forall_mem_cons.mpr ⟨lw_p2, List.forall_mem_cons.mpr ⟨lw_p3, List.forall_mem_cons.mpr ⟨lw_p4, List.forall_mem_cons.mpr ⟨lw_p5, List.forall_mem_cons.mpr ⟨lw_p6, List.forall_mem_cons.mpr ⟨lw_p7, List.forall_mem_cons.mpr ⟨lw_p8, List.forall_mem_cons.mpr ⟨lw_p9, List.forall_mem_cons.mpr ⟨lw_p10, List.forall_mem_cons.mpr ⟨lw_p11, List.forall_mem_cons.mpr ⟨lw_p12, List.forall_mem_cons.mpr ⟨lw_p13, List.forall_mem_cons.mpr ⟨lw_p14, List.forall_mem_cons.mpr ⟨lw_p15, fun _ h => absurd h List.not_mem_nil⟩⟩⟩⟩⟩⟩⟩⟩⟩⟩⟩⟩⟩⟩⟩⟩
theorem lw_p16 : lw_okq (⟨"TrueMapsModel", "pays", "(II)Z"⟩, 19) := ⟨⟨by decide +kernel, by decide +kernel⟩, List.mem_of_getElem? (i := 622) (by decide +kernel), List.mem_of_getElem? (i := 804) (by decide +kernel), List.mem_of_getElem? (i := 805) (by decide +kernel)⟩
theorem lw_p17 : lw_okq (⟨"TrueMapsModel", "mends", "(II)V"⟩, 19) := ⟨⟨by decide +kernel, by decide +kernel⟩, List.mem_of_getElem? (i := 622) (by decide +kernel), List.mem_of_getElem? (i := 809) (by decide +kernel), List.mem_of_getElem? (i := 810) (by decide +kernel)⟩
theorem lw_p18 : lw_okq (⟨"TrueMapsModel", "wrongMany", "()I"⟩, 19) := ⟨⟨by decide +kernel, by decide +kernel⟩, List.mem_of_getElem? (i := 622) (by decide +kernel), List.mem_of_getElem? (i := 813) (by decide +kernel), List.mem_of_getElem? (i := 814) (by decide +kernel)⟩
theorem lw_p19 : lw_okq (⟨"TrueMapsModel", "goesOn", "(I)V"⟩, 19) := ⟨⟨by decide +kernel, by decide +kernel⟩, List.mem_of_getElem? (i := 622) (by decide +kernel), List.mem_of_getElem? (i := 822) (by decide +kernel), List.mem_of_getElem? (i := 823) (by decide +kernel)⟩
theorem lw_p20 : lw_okq (⟨"TrueMapsModel", "year", "()V"⟩, 19) := ⟨⟨by decide +kernel, by decide +kernel⟩, List.mem_of_getElem? (i := 622) (by decide +kernel), List.mem_of_getElem? (i := 826) (by decide +kernel), List.mem_of_getElem? (i := 827) (by decide +kernel)⟩
theorem lw_p21 : lw_okq (⟨"TrueMapsModel", "together", "(I)I"⟩, 19) := ⟨⟨by decide +kernel, by decide +kernel⟩, List.mem_of_getElem? (i := 622) (by decide +kernel), List.mem_of_getElem? (i := 834) (by decide +kernel), List.mem_of_getElem? (i := 835) (by decide +kernel)⟩
theorem lw_p22 : lw_okq (⟨"TrueMapsModel", "laysAside", "()V"⟩, 19) := ⟨⟨by decide +kernel, by decide +kernel⟩, List.mem_of_getElem? (i := 622) (by decide +kernel), List.mem_of_getElem? (i := 843) (by decide +kernel), List.mem_of_getElem? (i := 844) (by decide +kernel)⟩
theorem lw_p23 : lw_okq (⟨"TrueMapsModel", "takesBack", "(I)I"⟩, 19) := ⟨⟨by decide +kernel, by decide +kernel⟩, List.mem_of_getElem? (i := 622) (by decide +kernel), List.mem_of_getElem? (i := 847) (by decide +kernel), List.mem_of_getElem? (i := 848) (by decide +kernel)⟩
theorem lw_p24 : lw_okq (⟨"TrueMapsModel", "wrongOn", "(I)I"⟩, 19) := ⟨⟨by decide +kernel, by decide +kernel⟩, List.mem_of_getElem? (i := 622) (by decide +kernel), List.mem_of_getElem? (i := 855) (by decide +kernel), List.mem_of_getElem? (i := 856) (by decide +kernel)⟩
theorem lw_p25 : lw_okq (⟨"TrueMapsModel", "findTwo", "(I)I"⟩, 19) := ⟨⟨by decide +kernel, by decide +kernel⟩, List.mem_of_getElem? (i := 622) (by decide +kernel), List.mem_of_getElem? (i := 880) (by decide +kernel), List.mem_of_getElem? (i := 881) (by decide +kernel)⟩
theorem lw_p26 : lw_okq (⟨"TrueMapsModel", "saves", "()V"⟩, 19) := ⟨⟨by decide +kernel, by decide +kernel⟩, List.mem_of_getElem? (i := 622) (by decide +kernel), List.mem_of_getElem? (i := 884) (by decide +kernel), List.mem_of_getElem? (i := 885) (by decide +kernel)⟩
theorem lw_p27 : lw_okq (⟨"TrueMapsModel", "putsBack", "()V"⟩, 19) := ⟨⟨by decide +kernel, by decide +kernel⟩, List.mem_of_getElem? (i := 622) (by decide +kernel), List.mem_of_getElem? (i := 888) (by decide +kernel), List.mem_of_getElem? (i := 889) (by decide +kernel)⟩
theorem lw_p28 : lw_okq (⟨"TrueMapsModel", "isOpen", "(II)Z"⟩, 19) := ⟨⟨by decide +kernel, by decide +kernel⟩, List.mem_of_getElem? (i := 622) (by decide +kernel), List.mem_of_getElem? (i := 912) (by decide +kernel), List.mem_of_getElem? (i := 913) (by decide +kernel)⟩
theorem lw_p29 : lw_okq (⟨"TrueMapsModel", "token", "()V"⟩, 19) := ⟨⟨by decide +kernel, by decide +kernel⟩, List.mem_of_getElem? (i := 622) (by decide +kernel), List.mem_of_getElem? (i := 928) (by decide +kernel), List.mem_of_getElem? (i := 929) (by decide +kernel)⟩
theorem lw_p30 : lw_okq (⟨"TrueMapsModel", "byteAt", "(I)I"⟩, 19) := ⟨⟨by decide +kernel, by decide +kernel⟩, List.mem_of_getElem? (i := 622) (by decide +kernel), List.mem_of_getElem? (i := 932) (by decide +kernel), List.mem_of_getElem? (i := 933) (by decide +kernel)⟩
theorem lw_p31 : lw_okq (⟨"TrueMapsModel", "item", "()V"⟩, 19) := ⟨⟨by decide +kernel, by decide +kernel⟩, List.mem_of_getElem? (i := 622) (by decide +kernel), List.mem_of_getElem? (i := 946) (by decide +kernel), List.mem_of_getElem? (i := 947) (by decide +kernel)⟩
def lw_privs_2 : List (MethodName × Nat) := [(⟨"TrueMapsModel", "pays", "(II)Z"⟩, 19), (⟨"TrueMapsModel", "mends", "(II)V"⟩, 19), (⟨"TrueMapsModel", "wrongMany", "()I"⟩, 19), (⟨"TrueMapsModel", "goesOn", "(I)V"⟩, 19), (⟨"TrueMapsModel", "year", "()V"⟩, 19), (⟨"TrueMapsModel", "together", "(I)I"⟩, 19), (⟨"TrueMapsModel", "laysAside", "()V"⟩, 19), (⟨"TrueMapsModel", "takesBack", "(I)I"⟩, 19), (⟨"TrueMapsModel", "wrongOn", "(I)I"⟩, 19), (⟨"TrueMapsModel", "findTwo", "(I)I"⟩, 19), (⟨"TrueMapsModel", "saves", "()V"⟩, 19), (⟨"TrueMapsModel", "putsBack", "()V"⟩, 19), (⟨"TrueMapsModel", "isOpen", "(II)Z"⟩, 19), (⟨"TrueMapsModel", "token", "()V"⟩, 19), (⟨"TrueMapsModel", "byteAt", "(I)I"⟩, 19), (⟨"TrueMapsModel", "item", "()V"⟩, 19)]
theorem lw_r2 : ∀ q ∈ lw_privs_2, lw_okq q := List.forall_mem_cons.mpr ⟨lw_p16, List.forall_mem_cons.mpr ⟨lw_p17, List.forall_mem_cons.mpr ⟨lw_p18, List.forall_mem_cons.mpr ⟨lw_p19, List.forall_mem_cons.mpr ⟨lw_p20, List.forall_mem_cons.mpr ⟨lw_p21, List.forall_mem_cons.mpr ⟨lw_p22, List.forall_mem_cons.mpr ⟨lw_p23, List.forall_mem_cons.mpr ⟨lw_p24, List.forall_mem_cons.mpr ⟨lw_p25, List.forall_mem_cons.mpr ⟨lw_p26, List.forall_mem_cons.mpr ⟨lw_p27, List.forall_mem_cons.mpr ⟨lw_p28, List.forall_mem_cons.mpr ⟨lw_p29, List.forall_mem_cons.mpr ⟨lw_p30, List.forall_mem_cons.mpr ⟨lw_p31, fun _ h => absurd h List.not_mem_nil⟩⟩⟩⟩⟩⟩⟩⟩⟩⟩⟩⟩⟩⟩⟩⟩
theorem lw_p32 : lw_okq (⟨"TrueMapsModel", "kindHere", "()I"⟩, 19) := ⟨⟨by decide +kernel, by decide +kernel⟩, List.mem_of_getElem? (i := 622) (by decide +kernel), List.mem_of_getElem? (i := 950) (by decide +kernel), List.mem_of_getElem? (i := 951) (by decide +kernel)⟩
theorem lw_p33 : lw_okq (⟨"TrueMapsModel", "word", "()J"⟩, 19) := ⟨⟨by decide +kernel, by decide +kernel⟩, List.mem_of_getElem? (i := 622) (by decide +kernel), List.mem_of_getElem? (i := 954) (by decide +kernel), List.mem_of_getElem? (i := 955) (by decide +kernel)⟩
theorem lw_p34 : lw_okq (⟨"TrueMapsModel", "menderItem", "(I)V"⟩, 19) := ⟨⟨by decide +kernel, by decide +kernel⟩, List.mem_of_getElem? (i := 622) (by decide +kernel), List.mem_of_getElem? (i := 966) (by decide +kernel), List.mem_of_getElem? (i := 967) (by decide +kernel)⟩
theorem lw_p35 : lw_okq (⟨"TrueMapsModel", "must", "(Z)V"⟩, 19) := ⟨⟨by decide +kernel, by decide +kernel⟩, List.mem_of_getElem? (i := 622) (by decide +kernel), List.mem_of_getElem? (i := 970) (by decide +kernel), List.mem_of_getElem? (i := 971) (by decide +kernel)⟩
theorem lw_p36 : lw_okq (⟨"TrueMapsModel", "number", "(II)V"⟩, 19) := ⟨⟨by decide +kernel, by decide +kernel⟩, List.mem_of_getElem? (i := 622) (by decide +kernel), List.mem_of_getElem? (i := 975) (by decide +kernel), List.mem_of_getElem? (i := 976) (by decide +kernel)⟩
theorem lw_p37 : lw_okq (⟨"TrueMapsModel", "cellsItem", "(I)V"⟩, 19) := ⟨⟨by decide +kernel, by decide +kernel⟩, List.mem_of_getElem? (i := 622) (by decide +kernel), List.mem_of_getElem? (i := 982) (by decide +kernel), List.mem_of_getElem? (i := 983) (by decide +kernel)⟩
theorem lw_p38 : lw_okq (⟨"TrueMapsModel", "sortHere", "()I"⟩, 19) := ⟨⟨by decide +kernel, by decide +kernel⟩, List.mem_of_getElem? (i := 622) (by decide +kernel), List.mem_of_getElem? (i := 986) (by decide +kernel), List.mem_of_getElem? (i := 987) (by decide +kernel)⟩
theorem lw_p39 : lw_okq (⟨"TrueMapsModel", "wrongSheet", "(I)I"⟩, 19) := ⟨⟨by decide +kernel, by decide +kernel⟩, List.mem_of_getElem? (i := 622) (by decide +kernel), List.mem_of_getElem? (i := 1011) (by decide +kernel), List.mem_of_getElem? (i := 1012) (by decide +kernel)⟩
theorem lw_p40 : lw_okq (⟨"TrueMapsModel", "isBook", "(I)Z"⟩, 19) := ⟨⟨by decide +kernel, by decide +kernel⟩, List.mem_of_getElem? (i := 622) (by decide +kernel), List.mem_of_getElem? (i := 1035) (by decide +kernel), List.mem_of_getElem? (i := 1036) (by decide +kernel)⟩
theorem lw_p41 : lw_okq (⟨"TrueMapsModel", "others", "(I)I"⟩, 19) := ⟨⟨by decide +kernel, by decide +kernel⟩, List.mem_of_getElem? (i := 622) (by decide +kernel), List.mem_of_getElem? (i := 1055) (by decide +kernel), List.mem_of_getElem? (i := 1056) (by decide +kernel)⟩
def lw_privs_3 : List (MethodName × Nat) := [(⟨"TrueMapsModel", "kindHere", "()I"⟩, 19), (⟨"TrueMapsModel", "word", "()J"⟩, 19), (⟨"TrueMapsModel", "menderItem", "(I)V"⟩, 19), (⟨"TrueMapsModel", "must", "(Z)V"⟩, 19), (⟨"TrueMapsModel", "number", "(II)V"⟩, 19), (⟨"TrueMapsModel", "cellsItem", "(I)V"⟩, 19), (⟨"TrueMapsModel", "sortHere", "()I"⟩, 19), (⟨"TrueMapsModel", "wrongSheet", "(I)I"⟩, 19), (⟨"TrueMapsModel", "isBook", "(I)Z"⟩, 19), (⟨"TrueMapsModel", "others", "(I)I"⟩, 19)]
theorem lw_r3 : ∀ q ∈ lw_privs_3, lw_okq q := List.forall_mem_cons.mpr ⟨lw_p32, List.forall_mem_cons.mpr ⟨lw_p33, List.forall_mem_cons.mpr ⟨lw_p34, List.forall_mem_cons.mpr ⟨lw_p35, List.forall_mem_cons.mpr ⟨lw_p36, List.forall_mem_cons.mpr ⟨lw_p37, List.forall_mem_cons.mpr ⟨lw_p38, List.forall_mem_cons.mpr ⟨lw_p39, List.forall_mem_cons.mpr ⟨lw_p40, List.forall_mem_cons.mpr ⟨lw_p41, fun _ h => absurd h List.not_mem_nil⟩⟩⟩⟩⟩⟩⟩⟩⟩⟩
def lw_privs : List (MethodName × Nat) := lw_privs_1 ++ (lw_privs_2 ++ (lw_privs_3))
def lw_tbl : List Cond := k2_sels lw_privs ++ tables_1
theorem lw_privs_ok : ∀ q ∈ lw_privs, lw_okq q := by
  show ∀ q ∈ lw_privs_1 ++ (lw_privs_2 ++ (lw_privs_3)), lw_okq q
  exact List.forall_mem_append.mpr ⟨lw_r1, List.forall_mem_append.mpr ⟨lw_r2, lw_r3⟩⟩
end
section
def RX0 : String := "TrueMaps$Sheet"
def TX0 : u_T := fun k => match k with
  | 0 => ("TrueMaps$Sheet", "numbers", "[J", true)
  | 1 => ("TrueMaps$Sheet", "bits", "I", false)
  | _ => ("TrueMaps$Sheet", "size", "I", false)
def tyX0 : Nat → FieldType := fun k => match k with
  | 0 => .array .long
  | 1 => .int
  | _ => .int
abbrev wsX00 : List Cond := u_ws RX0 TX0 3
theorem nmX0 : ∀ a, a < 3 → ∀ b, b < 3 → a ≠ b → (TX0 a).2.1 ≠ (TX0 b).2.1 := by decide +kernel
theorem tyX0_ok : ∀ k, k < 3 → parseFieldDescriptor (TX0 k).2.2.1 = some (tyX0 k) := by decide +kernel
abbrev cX0_init : ByteArray := prog_2_method_1_code
def yX0_init : MethodName := ⟨RX0, "<init>", "()V"⟩
abbrev cX0_isMissing : ByteArray := prog_2_method_2_code
def yX0_isMissing : MethodName := ⟨RX0, "isMissing", "()Z"⟩
abbrev cX0_clear : ByteArray := prog_2_method_3_code
def yX0_clear : MethodName := ⟨RX0, "clear", "(II)V"⟩
abbrev cX0_put : ByteArray := prog_2_method_4_code
def yX0_put : MethodName := ⟨RX0, "put", "(IJ)J"⟩
abbrev cX0_cut : ByteArray := prog_2_method_5_code
def yX0_cut : MethodName := ⟨RX0, "cut", "(J)J"⟩
abbrev cX0_hasPart : ByteArray := prog_2_method_6_code
def yX0_hasPart : MethodName := ⟨RX0, "hasPart", "(II)Z"⟩
def RX1 : String := "TrueMaps$Tape"
def TX1 : u_T := fun k => match k with
  | 0 => ("TrueMaps$Tape", "bytes", "[I", true)
  | 1 => ("TrueMaps$Tape", "length", "I", false)
  | 2 => ("TrueMaps$Tape", "token", "I", false)
  | 3 => ("TrueMaps$Tape", "start", "I", false)
  | 4 => ("TrueMaps$Tape", "end", "I", false)
  | _ => ("TrueMaps$Tape", "number", "I", false)
def tyX1 : Nat → FieldType := fun k => match k with
  | 0 => .array .int
  | 1 => .int
  | 2 => .int
  | 3 => .int
  | 4 => .int
  | _ => .int
abbrev wsX10 : List Cond := u_ws RX1 TX1 6
theorem nmX1 : ∀ a, a < 6 → ∀ b, b < 6 → a ≠ b → (TX1 a).2.1 ≠ (TX1 b).2.1 := by decide +kernel
theorem tyX1_ok : ∀ k, k < 6 → parseFieldDescriptor (TX1 k).2.2.1 = some (tyX1 k) := by decide +kernel
abbrev cX1_init : ByteArray := prog_3_method_1_code
def yX1_init : MethodName := ⟨RX1, "<init>", "()V"⟩
abbrev cX1_readInto : ByteArray := prog_3_method_2_code
def yX1_readInto : MethodName := ⟨RX1, "readInto", "(LTrueMaps$World;)I"⟩
abbrev cX1_readItem : ByteArray := prog_3_method_3_code
def yX1_readItem : MethodName := ⟨RX1, "readItem", "(LTrueMaps$World;)Z"⟩
abbrev cX1_readMender : ByteArray := prog_3_method_4_code
def yX1_readMender : MethodName := ⟨RX1, "readMender", "(LTrueMaps$World;I)Z"⟩
abbrev cX1_readCells : ByteArray := prog_3_method_5_code
def yX1_readCells : MethodName := ⟨RX1, "readCells", "(LTrueMaps$World;I)Z"⟩
abbrev cX1_readIncome : ByteArray := prog_3_method_6_code
def yX1_readIncome : MethodName := ⟨RX1, "readIncome", "(LTrueMaps$World;)Z"⟩
abbrev cX1_kindNamed : ByteArray := prog_3_method_7_code
def yX1_kindNamed : MethodName := ⟨RX1, "kindNamed", "()I"⟩
abbrev cX1_sortNamed : ByteArray := prog_3_method_8_code
def yX1_sortNamed : MethodName := ⟨RX1, "sortNamed", "()I"⟩
abbrev cX1_nameOfKind : ByteArray := prog_3_method_9_code
def yX1_nameOfKind : MethodName := ⟨RX1, "nameOfKind", "(I)Ljava/lang/String;"⟩
abbrev cX1_nameOfSort : ByteArray := prog_3_method_10_code
def yX1_nameOfSort : MethodName := ⟨RX1, "nameOfSort", "(I)Ljava/lang/String;"⟩
abbrev cX1_isWord : ByteArray := prog_3_method_11_code
def yX1_isWord : MethodName := ⟨RX1, "isWord", "(Ljava/lang/String;)Z"⟩
abbrev cX1_isNumber : ByteArray := prog_3_method_12_code
def yX1_isNumber : MethodName := ⟨RX1, "isNumber", "(II)Z"⟩
abbrev cX1_advance : ByteArray := prog_3_method_13_code
def yX1_advance : MethodName := ⟨RX1, "advance", "()V"⟩
abbrev cX1_readDigits : ByteArray := prog_3_method_14_code
def yX1_readDigits : MethodName := ⟨RX1, "readDigits", "()V"⟩
abbrev cX1_isLetter : ByteArray := prog_3_method_15_code
def yX1_isLetter : MethodName := ⟨RX1, "isLetter", "(I)Z"⟩
abbrev cX1_isDigit : ByteArray := prog_3_method_16_code
def yX1_isDigit : MethodName := ⟨RX1, "isDigit", "(I)Z"⟩
def RX2 : String := "TrueMaps$World"
def TX2 : u_T := fun k => match k with
  | 0 => ("TrueMaps$World", "land", "[I", true)
  | 1 => ("TrueMaps$World", "map", "[I", true)
  | 2 => ("TrueMaps$World", "kinds", "[I", true)
  | 3 => ("TrueMaps$World", "places", "[I", true)
  | 4 => ("TrueMaps$World", "purses", "[I", true)
  | 5 => ("TrueMaps$World", "paid", "[I", true)
  | 6 => ("TrueMaps$World", "menders", "I", false)
  | 7 => ("TrueMaps$World", "year", "I", false)
  | 8 => ("TrueMaps$World", "income", "I", false)
  | _ => ("TrueMaps$World", "wrong", "J", false)
def tyX2 : Nat → FieldType := fun k => match k with
  | 0 => .array .int
  | 1 => .array .int
  | 2 => .array .int
  | 3 => .array .int
  | 4 => .array .int
  | 5 => .array .int
  | 6 => .int
  | 7 => .int
  | 8 => .int
  | _ => .long
abbrev wsX20 : List Cond := u_ws RX2 TX2 10
theorem nmX2 : ∀ a, a < 10 → ∀ b, b < 10 → a ≠ b → (TX2 a).2.1 ≠ (TX2 b).2.1 := by decide +kernel
theorem tyX2_ok : ∀ k, k < 10 → parseFieldDescriptor (TX2 k).2.2.1 = some (tyX2 k) := by decide +kernel
abbrev cX2_init : ByteArray := prog_4_method_1_code
def yX2_init : MethodName := ⟨RX2, "<init>", "()V"⟩
abbrev cX2_become : ByteArray := prog_4_method_2_code
def yX2_become : MethodName := ⟨RX2, "become", "(LTrueMaps$World;)V"⟩
abbrev cX2_paint : ByteArray := prog_4_method_3_code
def yX2_paint : MethodName := ⟨RX2, "paint", "(III)I"⟩
abbrev cX2_addMender : ByteArray := prog_4_method_4_code
def yX2_addMender : MethodName := ⟨RX2, "addMender", "(III)I"⟩
abbrev cX2_isWrong : ByteArray := prog_4_method_5_code
def yX2_isWrong : MethodName := ⟨RX2, "isWrong", "(I)Z"⟩
abbrev cX2_howManyWrong : ByteArray := prog_4_method_6_code
def yX2_howManyWrong : MethodName := ⟨RX2, "howManyWrong", "()I"⟩
abbrev cX2_mendersAt : ByteArray := prog_4_method_7_code
def yX2_mendersAt : MethodName := ⟨RX2, "mendersAt", "(I)I"⟩
abbrev cX2_landOf : ByteArray := prog_4_method_8_code
def yX2_landOf : MethodName := ⟨RX2, "landOf", "(I)J"⟩
abbrev cX2_together : ByteArray := prog_4_method_9_code
def yX2_together : MethodName := ⟨RX2, "together", "([I)I"⟩
abbrev cX2_costOf : ByteArray := prog_4_method_10_code
def yX2_costOf : MethodName := ⟨RX2, "costOf", "(II)I"⟩
abbrev cX2_isEither : ByteArray := prog_4_method_11_code
def yX2_isEither : MethodName := ⟨RX2, "isEither", "(II)Z"⟩
abbrev cX2_goalOf : ByteArray := prog_4_method_12_code
def yX2_goalOf : MethodName := ⟨RX2, "goalOf", "(I)I"⟩
abbrev cX2_nearestTo : ByteArray := prog_4_method_13_code
def yX2_nearestTo : MethodName := ⟨RX2, "nearestTo", "(I)I"⟩
abbrev cX2_costOfGoal : ByteArray := prog_4_method_14_code
def yX2_costOfGoal : MethodName := ⟨RX2, "costOfGoal", "(I)I"⟩
abbrev cX2_wrongOnceMended : ByteArray := prog_4_method_15_code
def yX2_wrongOnceMended : MethodName := ⟨RX2, "wrongOnceMended", "(II)J"⟩
abbrev cX2_mendFree : ByteArray := prog_4_method_16_code
def yX2_mendFree : MethodName := ⟨RX2, "mendFree", "(II)V"⟩
abbrev cX2_payAndMend : ByteArray := prog_4_method_17_code
def yX2_payAndMend : MethodName := ⟨RX2, "payAndMend", "(III)V"⟩
abbrev cX2_sortSpoiltBy : ByteArray := prog_4_method_18_code
def yX2_sortSpoiltBy : MethodName := ⟨RX2, "sortSpoiltBy", "(I)I"⟩
abbrev cX2_sortSpoiltTo : ByteArray := prog_4_method_19_code
def yX2_sortSpoiltTo : MethodName := ⟨RX2, "sortSpoiltTo", "(I)I"⟩
abbrev cX2_cellAtSide : ByteArray := prog_4_method_20_code
def yX2_cellAtSide : MethodName := ⟨RX2, "cellAtSide", "(II)I"⟩
abbrev cX2_bestFor : ByteArray := prog_4_method_21_code
def yX2_bestFor : MethodName := ⟨RX2, "bestFor", "(I)I"⟩
abbrev cX2_passYears : ByteArray := prog_4_method_22_code
def yX2_passYears : MethodName := ⟨RX2, "passYears", "(II)I"⟩
abbrev cX2_workOneYear : ByteArray := prog_4_method_23_code
def yX2_workOneYear : MethodName := ⟨RX2, "workOneYear", "(I)V"⟩
def RX3 : String := "TrueMaps"
def TX3 : u_T := fun k => match k with
  | 0 => ("TrueMaps", "world", "LTrueMaps$World;", true)
  | 1 => ("TrueMaps", "trial", "LTrueMaps$World;", true)
  | 2 => ("TrueMaps", "kept", "LTrueMaps$World;", true)
  | 3 => ("TrueMaps", "tape", "LTrueMaps$Tape;", true)
  | 4 => ("TrueMaps", "sheets", "[LTrueMaps$Sheet;", true)
  | 5 => ("TrueMaps", "findings", "[I", true)
  | _ => ("TrueMaps", "keeping", "Z", false)
def tyX3 : Nat → FieldType := fun k => match k with
  | 0 => .object "TrueMaps$World"
  | 1 => .object "TrueMaps$World"
  | 2 => .object "TrueMaps$World"
  | 3 => .object "TrueMaps$Tape"
  | 4 => .array (.object "TrueMaps$Sheet")
  | 5 => .array .int
  | _ => .boolean
abbrev wsX30 : List Cond := u_ws RX3 TX3 7
theorem nmX3 : ∀ a, a < 7 → ∀ b, b < 7 → a ≠ b → (TX3 a).2.1 ≠ (TX3 b).2.1 := by decide +kernel
theorem tyX3_ok : ∀ k, k < 7 → parseFieldDescriptor (TX3 k).2.2.1 = some (tyX3 k) := by decide +kernel
abbrev cX3_init : ByteArray := prog_1_method_1_code
def yX3_init : MethodName := ⟨RX3, "<init>", "()V"⟩
abbrev cX3_draw : ByteArray := prog_1_method_2_code
def yX3_draw : MethodName := ⟨RX3, "draw", "(III)I"⟩
abbrev cX3_cell : ByteArray := prog_1_method_3_code
def yX3_cell : MethodName := ⟨RX3, "cell", "(II)I"⟩
abbrev cX3_cells : ByteArray := prog_1_method_4_code
def yX3_cells : MethodName := ⟨RX3, "cells", "(I)J"⟩
abbrev cX3_income : ByteArray := prog_1_method_5_code
def yX3_income : MethodName := ⟨RX3, "income", "(I)I"⟩
abbrev cX3_mender : ByteArray := prog_1_method_6_code
def yX3_mender : MethodName := ⟨RX3, "mender", "(II)I"⟩
abbrev cX3_of : ByteArray := prog_1_method_7_code
def yX3_of : MethodName := ⟨RX3, "of", "(II)I"⟩
abbrev cX3_set : ByteArray := prog_1_method_8_code
def yX3_set : MethodName := ⟨RX3, "set", "(III)I"⟩
abbrev cX3_turn : ByteArray := prog_1_method_9_code
def yX3_turn : MethodName := ⟨RX3, "turn", "(II)I"⟩
abbrev cX3_as : ByteArray := prog_1_method_10_code
def yX3_as : MethodName := ⟨RX3, "as", "(II)I"⟩
abbrev cX3_cost : ByteArray := prog_1_method_11_code
def yX3_cost : MethodName := ⟨RX3, "cost", "(II)I"⟩
abbrev cX3_mend : ByteArray := prog_1_method_12_code
def yX3_mend : MethodName := ⟨RX3, "mend", "(II)I"⟩
abbrev cX3_years : ByteArray := prog_1_method_13_code
def yX3_years : MethodName := ⟨RX3, "years", "(I)I"⟩
abbrev cX3_now : ByteArray := prog_1_method_14_code
def yX3_now : MethodName := ⟨RX3, "now", "(I)I"⟩
abbrev cX3_on : ByteArray := prog_1_method_15_code
def yX3_on : MethodName := ⟨RX3, "on", "(III)I"⟩
abbrev cX3_wrong : ByteArray := prog_1_method_16_code
def yX3_wrong : MethodName := ⟨RX3, "wrong", "(I)I"⟩
abbrev cX3_done : ByteArray := prog_1_method_17_code
def yX3_done : MethodName := ⟨RX3, "done", "()I"⟩
abbrev cX3_when : ByteArray := prog_1_method_18_code
def yX3_when : MethodName := ⟨RX3, "when", "(I)I"⟩
abbrev cX3_cheapest : ByteArray := prog_1_method_19_code
def yX3_cheapest : MethodName := ⟨RX3, "cheapest", "(I)I"⟩
abbrev cX3_best : ByteArray := prog_1_method_20_code
def yX3_best : MethodName := ⟨RX3, "best", "(I)I"⟩
abbrev cX3_two : ByteArray := prog_1_method_21_code
def yX3_two : MethodName := ⟨RX3, "two", "(I)I"⟩
abbrev cX3_left : ByteArray := prog_1_method_22_code
def yX3_left : MethodName := ⟨RX3, "left", "(I)I"⟩
abbrev cX3_kind : ByteArray := prog_1_method_23_code
def yX3_kind : MethodName := ⟨RX3, "kind", "(II)I"⟩
abbrev cX3_purse : ByteArray := prog_1_method_24_code
def yX3_purse : MethodName := ⟨RX3, "purse", "(II)I"⟩
abbrev cX3_needed : ByteArray := prog_1_method_25_code
def yX3_needed : MethodName := ⟨RX3, "needed", "(I)I"⟩
abbrev cX3_way : ByteArray := prog_1_method_26_code
def yX3_way : MethodName := ⟨RX3, "way", "(III)I"⟩
abbrev cX3_feed : ByteArray := prog_1_method_27_code
def yX3_feed : MethodName := ⟨RX3, "feed", "(II)I"⟩
abbrev cX3_wipe : ByteArray := prog_1_method_28_code
def yX3_wipe : MethodName := ⟨RX3, "wipe", "()I"⟩
abbrev cX3_map : ByteArray := prog_1_method_29_code
def yX3_map : MethodName := ⟨RX3, "map", "()I"⟩
abbrev cX3_sheet : ByteArray := prog_1_method_30_code
def yX3_sheet : MethodName := ⟨RX3, "sheet", "(III)I"⟩
abbrev cX3_write : ByteArray := prog_1_method_31_code
def yX3_write : MethodName := ⟨RX3, "write", "(IIJ)J"⟩
abbrev cX3_copy : ByteArray := prog_1_method_32_code
def yX3_copy : MethodName := ⟨RX3, "copy", "(IIIII)I"⟩
abbrev cX3_lays : ByteArray := prog_1_method_33_code
def yX3_lays : MethodName := ⟨RX3, "lays", "(I)I"⟩
abbrev cX3_book : ByteArray := prog_1_method_34_code
def yX3_book : MethodName := ⟨RX3, "book", "(I)I"⟩
abbrev cX3_read : ByteArray := prog_1_method_35_code
def yX3_read : MethodName := ⟨RX3, "read", "(II)I"⟩
abbrev cX3_image : ByteArray := prog_1_method_36_code
def yX3_image : MethodName := ⟨RX3, "image", "()I"⟩
abbrev cX3_undo : ByteArray := prog_1_method_37_code
def yX3_undo : MethodName := ⟨RX3, "undo", "()I"⟩
abbrev cX3_tear : ByteArray := prog_1_method_38_code
def yX3_tear : MethodName := ⟨RX3, "tear", "()I"⟩
abbrev cX3_count : ByteArray := prog_1_method_39_code
def yX3_count : MethodName := ⟨RX3, "count", "(I)I"⟩
abbrev cX3_status : ByteArray := prog_1_method_40_code
def yX3_status : MethodName := ⟨RX3, "status", "(I)I"⟩
abbrev cX3_finding : ByteArray := prog_1_method_41_code
def yX3_finding : MethodName := ⟨RX3, "finding", "(I)I"⟩
abbrev cX3_noMender : ByteArray := prog_1_method_42_code
def yX3_noMender : MethodName := ⟨RX3, "noMender", "(I)Z"⟩
abbrev cX3_noCell : ByteArray := prog_1_method_43_code
def yX3_noCell : MethodName := ⟨RX3, "noCell", "(I)Z"⟩
abbrev cX3_noKind : ByteArray := prog_1_method_44_code
def yX3_noKind : MethodName := ⟨RX3, "noKind", "(I)Z"⟩
abbrev cX3_noSheet : ByteArray := prog_1_method_45_code
def yX3_noSheet : MethodName := ⟨RX3, "noSheet", "(I)Z"⟩
abbrev cX3_outside : ByteArray := prog_1_method_46_code
def yX3_outside : MethodName := ⟨RX3, "outside", "(III)Z"⟩
abbrev cX3_isUnder : ByteArray := prog_1_method_47_code
def yX3_isUnder : MethodName := ⟨RX3, "isUnder", "(II)Z"⟩
abbrev cX3_notPlain : ByteArray := prog_1_method_48_code
def yX3_notPlain : MethodName := ⟨RX3, "notPlain", "([I)I"⟩
abbrev cX3_firstYearWithout : ByteArray := prog_1_method_49_code
def yX3_firstYearWithout : MethodName := ⟨RX3, "firstYearWithout", "(J)I"⟩
abbrev cX3_bestPair : ByteArray := prog_1_method_50_code
def yX3_bestPair : MethodName := ⟨RX3, "bestPair", "(I)I"⟩
abbrev cX3_tryPurse : ByteArray := prog_1_method_51_code
def yX3_tryPurse : MethodName := ⟨RX3, "tryPurse", "(II)V"⟩
abbrev cX3_trialGoesAs : ByteArray := prog_1_method_52_code
def yX3_trialGoesAs : MethodName := ⟨RX3, "trialGoesAs", "(LTrueMaps$Sheet;)Z"⟩
abbrev cX3_beside : ByteArray := prog_1_method_53_code
def yX3_beside : MethodName := ⟨RX3, "beside", "(J)J"⟩
abbrev cX3_has : ByteArray := prog_1_method_54_code
def yX3_has : MethodName := ⟨RX3, "has", "(JI)Z"⟩
abbrev cX3_leastOf : ByteArray := prog_1_method_55_code
def yX3_leastOf : MethodName := ⟨RX3, "leastOf", "(J)I"⟩
def RX4 : String := "TrueMapsModel"
def TX4 : u_T := fun k => match k with
  | 0 => ("TrueMapsModel", "s", "[I", true)
  | 1 => ("TrueMapsModel", "keptS", "[I", true)
  | 2 => ("TrueMapsModel", "other", "[I", true)
  | 3 => ("TrueMapsModel", "aside", "[I", true)
  | 4 => ("TrueMapsModel", "statuses", "[I", true)
  | 5 => ("TrueMapsModel", "isKept", "Z", false)
  | 6 => ("TrueMapsModel", "idle", "I", false)
  | 7 => ("TrueMapsModel", "twoLeft", "I", false)
  | 8 => ("TrueMapsModel", "steps", "[I", true)
  | 9 => ("TrueMapsModel", "tape", "[I", true)
  | 10 => ("TrueMapsModel", "taped", "I", false)
  | 11 => ("TrueMapsModel", "from", "I", false)
  | 12 => ("TrueMapsModel", "to", "I", false)
  | 13 => ("TrueMapsModel", "value", "I", false)
  | 14 => ("TrueMapsModel", "isWrong", "Z", false)
  | 15 => ("TrueMapsModel", "bitsOf", "[I", true)
  | 16 => ("TrueMapsModel", "sizeOf", "[I", true)
  | 17 => ("TrueMapsModel", "numbers", "[J", true)
  | _ => ("TrueMapsModel", "moved", "[J", true)
def tyX4 : Nat → FieldType := fun k => match k with
  | 0 => .array .int
  | 1 => .array .int
  | 2 => .array .int
  | 3 => .array .int
  | 4 => .array .int
  | 5 => .boolean
  | 6 => .int
  | 7 => .int
  | 8 => .array .int
  | 9 => .array .int
  | 10 => .int
  | 11 => .int
  | 12 => .int
  | 13 => .int
  | 14 => .boolean
  | 15 => .array .int
  | 16 => .array .int
  | 17 => .array .long
  | _ => .array .long
abbrev wsX40 : List Cond := u_ws RX4 TX4 19
theorem nmX4 : ∀ a, a < 19 → ∀ b, b < 19 → a ≠ b → (TX4 a).2.1 ≠ (TX4 b).2.1 := by decide +kernel
theorem tyX4_ok : ∀ k, k < 19 → parseFieldDescriptor (TX4 k).2.2.1 = some (tyX4 k) := by decide +kernel
abbrev cX4_init : ByteArray := prog_6_method_1_code
def yX4_init : MethodName := ⟨RX4, "<init>", "()V"⟩
abbrev cX4_in : ByteArray := prog_6_method_2_code
def yX4_in : MethodName := ⟨RX4, "in", "(JJJ)Z"⟩
abbrev cX4_finds : ByteArray := prog_6_method_3_code
def yX4_finds : MethodName := ⟨RX4, "finds", "(I)I"⟩
abbrev cX4_saves : ByteArray := prog_6_method_4_code
def yX4_saves : MethodName := ⟨RX4, "saves", "()V"⟩
abbrev cX4_putsBack : ByteArray := prog_6_method_5_code
def yX4_putsBack : MethodName := ⟨RX4, "putsBack", "()V"⟩
abbrev cX4_laysAside : ByteArray := prog_6_method_6_code
def yX4_laysAside : MethodName := ⟨RX4, "laysAside", "()V"⟩
abbrev cX4_takesBack : ByteArray := prog_6_method_7_code
def yX4_takesBack : MethodName := ⟨RX4, "takesBack", "(I)I"⟩
abbrev cX4_becomes : ByteArray := prog_6_method_8_code
def yX4_becomes : MethodName := ⟨RX4, "becomes", "(II)I"⟩
abbrev cX4_isCell : ByteArray := prog_6_method_9_code
def yX4_isCell : MethodName := ⟨RX4, "isCell", "(I)Z"⟩
abbrev cX4_isMender : ByteArray := prog_6_method_10_code
def yX4_isMender : MethodName := ⟨RX4, "isMender", "(I)Z"⟩
abbrev cX4_isKind : ByteArray := prog_6_method_11_code
def yX4_isKind : MethodName := ⟨RX4, "isKind", "(I)Z"⟩
abbrev cX4_spot : ByteArray := prog_6_method_12_code
def yX4_spot : MethodName := ⟨RX4, "spot", "(II)I"⟩
abbrev cX4_its : ByteArray := prog_6_method_13_code
def yX4_its : MethodName := ⟨RX4, "its", "(II)I"⟩
abbrev cX4_beside : ByteArray := prog_6_method_14_code
def yX4_beside : MethodName := ⟨RX4, "beside", "(II)I"⟩
abbrev cX4_apart : ByteArray := prog_6_method_15_code
def yX4_apart : MethodName := ⟨RX4, "apart", "(II)I"⟩
abbrev cX4_isUntrue : ByteArray := prog_6_method_16_code
def yX4_isUntrue : MethodName := ⟨RX4, "isUntrue", "(I)Z"⟩
abbrev cX4_wrongMany : ByteArray := prog_6_method_17_code
def yX4_wrongMany : MethodName := ⟨RX4, "wrongMany", "()I"⟩
abbrev cX4_wrongBeside : ByteArray := prog_6_method_18_code
def yX4_wrongBeside : MethodName := ⟨RX4, "wrongBeside", "(I)I"⟩
abbrev cX4_draw : ByteArray := prog_6_method_19_code
def yX4_draw : MethodName := ⟨RX4, "draw", "(III)I"⟩
abbrev cX4_cell : ByteArray := prog_6_method_20_code
def yX4_cell : MethodName := ⟨RX4, "cell", "(II)I"⟩
abbrev cX4_thoseAt : ByteArray := prog_6_method_21_code
def yX4_thoseAt : MethodName := ⟨RX4, "thoseAt", "(I)I"⟩
abbrev cX4_cells : ByteArray := prog_6_method_22_code
def yX4_cells : MethodName := ⟨RX4, "cells", "(I)J"⟩
abbrev cX4_income : ByteArray := prog_6_method_23_code
def yX4_income : MethodName := ⟨RX4, "income", "(I)I"⟩
abbrev cX4_adds : ByteArray := prog_6_method_24_code
def yX4_adds : MethodName := ⟨RX4, "adds", "(II)I"⟩
abbrev cX4_mender : ByteArray := prog_6_method_25_code
def yX4_mender : MethodName := ⟨RX4, "mender", "(II)I"⟩
abbrev cX4_atLeastOne : ByteArray := prog_6_method_26_code
def yX4_atLeastOne : MethodName := ⟨RX4, "atLeastOne", "(I)I"⟩
abbrev cX4_costOf : ByteArray := prog_6_method_27_code
def yX4_costOf : MethodName := ⟨RX4, "costOf", "(II)I"⟩
abbrev cX4_goesFor : ByteArray := prog_6_method_28_code
def yX4_goesFor : MethodName := ⟨RX4, "goesFor", "(I)I"⟩
abbrev cX4_of : ByteArray := prog_6_method_29_code
def yX4_of : MethodName := ⟨RX4, "of", "(II)I"⟩
abbrev cX4_set : ByteArray := prog_6_method_30_code
def yX4_set : MethodName := ⟨RX4, "set", "(III)I"⟩
abbrev cX4_turn : ByteArray := prog_6_method_31_code
def yX4_turn : MethodName := ⟨RX4, "turn", "(II)I"⟩
abbrev cX4_isUnder : ByteArray := prog_6_method_32_code
def yX4_isUnder : MethodName := ⟨RX4, "isUnder", "(II)Z"⟩
abbrev cX4_as : ByteArray := prog_6_method_33_code
def yX4_as : MethodName := ⟨RX4, "as", "(II)I"⟩
abbrev cX4_cost : ByteArray := prog_6_method_34_code
def yX4_cost : MethodName := ⟨RX4, "cost", "(II)I"⟩
abbrev cX4_mends : ByteArray := prog_6_method_35_code
def yX4_mends : MethodName := ⟨RX4, "mends", "(II)V"⟩
abbrev cX4_pays : ByteArray := prog_6_method_36_code
def yX4_pays : MethodName := ⟨RX4, "pays", "(II)Z"⟩
abbrev cX4_mend : ByteArray := prog_6_method_37_code
def yX4_mend : MethodName := ⟨RX4, "mend", "(II)I"⟩
abbrev cX4_year : ByteArray := prog_6_method_38_code
def yX4_year : MethodName := ⟨RX4, "year", "()V"⟩
abbrev cX4_goesOn : ByteArray := prog_6_method_39_code
def yX4_goesOn : MethodName := ⟨RX4, "goesOn", "(I)V"⟩
abbrev cX4_years : ByteArray := prog_6_method_40_code
def yX4_years : MethodName := ⟨RX4, "years", "(I)I"⟩
abbrev cX4_together : ByteArray := prog_6_method_41_code
def yX4_together : MethodName := ⟨RX4, "together", "(I)I"⟩
abbrev cX4_now : ByteArray := prog_6_method_42_code
def yX4_now : MethodName := ⟨RX4, "now", "(I)I"⟩
abbrev cX4_on : ByteArray := prog_6_method_43_code
def yX4_on : MethodName := ⟨RX4, "on", "(III)I"⟩
abbrev cX4_wrongOn : ByteArray := prog_6_method_44_code
def yX4_wrongOn : MethodName := ⟨RX4, "wrongOn", "(I)I"⟩
abbrev cX4_wrong : ByteArray := prog_6_method_45_code
def yX4_wrong : MethodName := ⟨RX4, "wrong", "(I)I"⟩
abbrev cX4_done : ByteArray := prog_6_method_46_code
def yX4_done : MethodName := ⟨RX4, "done", "()I"⟩
abbrev cX4_when : ByteArray := prog_6_method_47_code
def yX4_when : MethodName := ⟨RX4, "when", "(I)I"⟩
abbrev cX4_cheapest : ByteArray := prog_6_method_48_code
def yX4_cheapest : MethodName := ⟨RX4, "cheapest", "(I)I"⟩
abbrev cX4_best : ByteArray := prog_6_method_49_code
def yX4_best : MethodName := ⟨RX4, "best", "(I)I"⟩
abbrev cX4_findTwo : ByteArray := prog_6_method_50_code
def yX4_findTwo : MethodName := ⟨RX4, "findTwo", "(I)I"⟩
abbrev cX4_two : ByteArray := prog_6_method_51_code
def yX4_two : MethodName := ⟨RX4, "two", "(I)I"⟩
abbrev cX4_left : ByteArray := prog_6_method_52_code
def yX4_left : MethodName := ⟨RX4, "left", "(I)I"⟩
abbrev cX4_kind : ByteArray := prog_6_method_53_code
def yX4_kind : MethodName := ⟨RX4, "kind", "(II)I"⟩
abbrev cX4_purse : ByteArray := prog_6_method_54_code
def yX4_purse : MethodName := ⟨RX4, "purse", "(II)I"⟩
abbrev cX4_needed : ByteArray := prog_6_method_55_code
def yX4_needed : MethodName := ⟨RX4, "needed", "(I)I"⟩
abbrev cX4_isOpen : ByteArray := prog_6_method_56_code
def yX4_isOpen : MethodName := ⟨RX4, "isOpen", "(II)Z"⟩
abbrev cX4_way : ByteArray := prog_6_method_57_code
def yX4_way : MethodName := ⟨RX4, "way", "(III)I"⟩
abbrev cX4_feed : ByteArray := prog_6_method_58_code
def yX4_feed : MethodName := ⟨RX4, "feed", "(II)I"⟩
abbrev cX4_wipe : ByteArray := prog_6_method_59_code
def yX4_wipe : MethodName := ⟨RX4, "wipe", "()I"⟩
abbrev cX4_byteAt : ByteArray := prog_6_method_60_code
def yX4_byteAt : MethodName := ⟨RX4, "byteAt", "(I)I"⟩
abbrev cX4_isLetter : ByteArray := prog_6_method_61_code
def yX4_isLetter : MethodName := ⟨RX4, "isLetter", "(I)Z"⟩
abbrev cX4_isDigit : ByteArray := prog_6_method_62_code
def yX4_isDigit : MethodName := ⟨RX4, "isDigit", "(I)Z"⟩
abbrev cX4_token : ByteArray := prog_6_method_63_code
def yX4_token : MethodName := ⟨RX4, "token", "()V"⟩
abbrev cX4_must : ByteArray := prog_6_method_64_code
def yX4_must : MethodName := ⟨RX4, "must", "(Z)V"⟩
abbrev cX4_word : ByteArray := prog_6_method_65_code
def yX4_word : MethodName := ⟨RX4, "word", "()J"⟩
abbrev cX4_number : ByteArray := prog_6_method_66_code
def yX4_number : MethodName := ⟨RX4, "number", "(II)V"⟩
abbrev cX4_kindHere : ByteArray := prog_6_method_67_code
def yX4_kindHere : MethodName := ⟨RX4, "kindHere", "()I"⟩
abbrev cX4_sortHere : ByteArray := prog_6_method_68_code
def yX4_sortHere : MethodName := ⟨RX4, "sortHere", "()I"⟩
abbrev cX4_menderItem : ByteArray := prog_6_method_69_code
def yX4_menderItem : MethodName := ⟨RX4, "menderItem", "(I)V"⟩
abbrev cX4_cellsItem : ByteArray := prog_6_method_70_code
def yX4_cellsItem : MethodName := ⟨RX4, "cellsItem", "(I)V"⟩
abbrev cX4_item : ByteArray := prog_6_method_71_code
def yX4_item : MethodName := ⟨RX4, "item", "()V"⟩
abbrev cX4_map : ByteArray := prog_6_method_72_code
def yX4_map : MethodName := ⟨RX4, "map", "()I"⟩
abbrev cX4_isOne : ByteArray := prog_6_method_73_code
def yX4_isOne : MethodName := ⟨RX4, "isOne", "(I)Z"⟩
abbrev cX4_sheet : ByteArray := prog_6_method_74_code
def yX4_sheet : MethodName := ⟨RX4, "sheet", "(III)I"⟩
abbrev cX4_narrowed : ByteArray := prog_6_method_75_code
def yX4_narrowed : MethodName := ⟨RX4, "narrowed", "(IJ)J"⟩
abbrev cX4_wrongSheet : ByteArray := prog_6_method_76_code
def yX4_wrongSheet : MethodName := ⟨RX4, "wrongSheet", "(I)I"⟩
abbrev cX4_write : ByteArray := prog_6_method_77_code
def yX4_write : MethodName := ⟨RX4, "write", "(IIJ)J"⟩
abbrev cX4_copy : ByteArray := prog_6_method_78_code
def yX4_copy : MethodName := ⟨RX4, "copy", "(IIIII)I"⟩
abbrev cX4_lays : ByteArray := prog_6_method_79_code
def yX4_lays : MethodName := ⟨RX4, "lays", "(I)I"⟩
abbrev cX4_book : ByteArray := prog_6_method_80_code
def yX4_book : MethodName := ⟨RX4, "book", "(I)I"⟩
abbrev cX4_isBook : ByteArray := prog_6_method_81_code
def yX4_isBook : MethodName := ⟨RX4, "isBook", "(I)Z"⟩
abbrev cX4_read : ByteArray := prog_6_method_82_code
def yX4_read : MethodName := ⟨RX4, "read", "(II)I"⟩
abbrev cX4_image : ByteArray := prog_6_method_83_code
def yX4_image : MethodName := ⟨RX4, "image", "()I"⟩
abbrev cX4_undo : ByteArray := prog_6_method_84_code
def yX4_undo : MethodName := ⟨RX4, "undo", "()I"⟩
abbrev cX4_tear : ByteArray := prog_6_method_85_code
def yX4_tear : MethodName := ⟨RX4, "tear", "()I"⟩
abbrev cX4_others : ByteArray := prog_6_method_86_code
def yX4_others : MethodName := ⟨RX4, "others", "(I)I"⟩
abbrev cX4_count : ByteArray := prog_6_method_87_code
def yX4_count : MethodName := ⟨RX4, "count", "(I)I"⟩
abbrev cX4_status : ByteArray := prog_6_method_88_code
def yX4_status : MethodName := ⟨RX4, "status", "(I)I"⟩
def RJ13 : String := "java/lang/Long"
def TJ13 : u_T := fun k => match k with
  | _ => ("", "", "", false)
def tyJ13 : Nat → FieldType := fun k => match k with
  | _ => .int
abbrev wsJ130 : List Cond := u_ws RJ13 TJ13 0
theorem nmJ13 : ∀ a, a < 0 → ∀ b, b < 0 → a ≠ b → (TJ13 a).2.1 ≠ (TJ13 b).2.1 := by decide +kernel
theorem tyJ13_ok : ∀ k, k < 0 → parseFieldDescriptor (TJ13 k).2.2.1 = some (tyJ13 k) := by decide +kernel
abbrev cJ13_bitCount_95d88 : ByteArray := prog_7_method_50_code
def yJ13_bitCount_95d88 : MethodName := ⟨RJ13, "bitCount", "(J)I"⟩
def RJ9 : String := "java/lang/Math"
def TJ9 : u_T := fun k => match k with
  | _ => ("", "", "", false)
def tyJ9 : Nat → FieldType := fun k => match k with
  | _ => .int
abbrev wsJ90 : List Cond := u_ws RJ9 TJ9 0
theorem nmJ9 : ∀ a, a < 0 → ∀ b, b < 0 → a ≠ b → (TJ9 a).2.1 ≠ (TJ9 b).2.1 := by decide +kernel
theorem tyJ9_ok : ∀ k, k < 0 → parseFieldDescriptor (TJ9 k).2.2.1 = some (tyJ9 k) := by decide +kernel
abbrev cJ9_abs_0f7a4 : ByteArray := prog_8_method_59_code
def yJ9_abs_0f7a4 : MethodName := ⟨RJ9, "abs", "(I)I"⟩
abbrev cJ9_max_7cf53 : ByteArray := prog_8_method_65_code
def yJ9_max_7cf53 : MethodName := ⟨RJ9, "max", "(II)I"⟩
abbrev cJ9_min_7cf53 : ByteArray := prog_8_method_69_code
def yJ9_min_7cf53 : MethodName := ⟨RJ9, "min", "(II)I"⟩
def RJ0 : String := "java/lang/String"
def TJ0 : u_T := fun k => match k with
  | _ => ("", "", "", false)
def tyJ0 : Nat → FieldType := fun k => match k with
  | _ => .int
abbrev wsJ00 : List Cond := u_ws RJ0 TJ0 0
theorem nmJ0 : ∀ a, a < 0 → ∀ b, b < 0 → a ≠ b → (TJ0 a).2.1 ≠ (TJ0 b).2.1 := by decide +kernel
theorem tyJ0_ok : ∀ k, k < 0 → parseFieldDescriptor (TJ0 k).2.2.1 = some (tyJ0 k) := by decide +kernel
abbrev cJ0_length_8abf5 : ByteArray := prog_9_method_54_code
def yJ0_length_8abf5 : MethodName := ⟨RJ0, "length", "()I"⟩
abbrev cJ0_charAt_5068e : ByteArray := prog_9_method_56_code
def yJ0_charAt_5068e : MethodName := ⟨RJ0, "charAt", "(I)C"⟩
abbrev cJ0_coder_7d493 : ByteArray := prog_9_method_152_code
def yJ0_coder_7d493 : MethodName := ⟨RJ0, "coder", "()B"⟩
abbrev cJ0_isLatin1_aae02 : ByteArray := prog_9_method_154_code
def yJ0_isLatin1_aae02 : MethodName := ⟨RJ0, "isLatin1", "()Z"⟩
abbrev cJ0_checkIndex_df160 : ByteArray := prog_9_method_155_code
def yJ0_checkIndex_df160 : MethodName := ⟨RJ0, "checkIndex", "(II)V"⟩
def RJ1 : String := "java/lang/StringLatin1"
def TJ1 : u_T := fun k => match k with
  | _ => ("", "", "", false)
def tyJ1 : Nat → FieldType := fun k => match k with
  | _ => .int
abbrev wsJ10 : List Cond := u_ws RJ1 TJ1 0
theorem nmJ1 : ∀ a, a < 0 → ∀ b, b < 0 → a ≠ b → (TJ1 a).2.1 ≠ (TJ1 b).2.1 := by decide +kernel
theorem tyJ1_ok : ∀ k, k < 0 → parseFieldDescriptor (TJ1 k).2.2.1 = some (tyJ1 k) := by decide +kernel
abbrev cJ1_charAt_3b067 : ByteArray := prog_10_method_2_code
def yJ1_charAt_3b067 : MethodName := ⟨RJ1, "charAt", "([BI)C"⟩
def RJ2 : String := "java/lang/StringUTF16"
def TJ2 : u_T := fun k => match k with
  | _ => ("", "", "", false)
def tyJ2 : Nat → FieldType := fun k => match k with
  | _ => .int
abbrev wsJ20 : List Cond := u_ws RJ2 TJ2 0
theorem nmJ2 : ∀ a, a < 0 → ∀ b, b < 0 → a ≠ b → (TJ2 a).2.1 ≠ (TJ2 b).2.1 := by decide +kernel
theorem tyJ2_ok : ∀ k, k < 0 → parseFieldDescriptor (TJ2 k).2.2.1 = some (tyJ2 k) := by decide +kernel
abbrev cJ2_getChar_3b067 : ByteArray := prog_11_method_5_code
def yJ2_getChar_3b067 : MethodName := ⟨RJ2, "getChar", "([BI)C"⟩
abbrev cJ2_length_9d52b : ByteArray := prog_11_method_6_code
def yJ2_length_9d52b : MethodName := ⟨RJ2, "length", "([B)I"⟩
abbrev cJ2_charAt_3b067 : ByteArray := prog_11_method_83_code
def yJ2_charAt_3b067 : MethodName := ⟨RJ2, "charAt", "([BI)C"⟩
abbrev cJ2_checkIndex_2214a : ByteArray := prog_11_method_91_code
def yJ2_checkIndex_2214a : MethodName := ⟨RJ2, "checkIndex", "(I[B)V"⟩
def RJ10 : String := "java/lang/System"
def TJ10 : u_T := fun k => match k with
  | _ => ("", "", "", false)
def tyJ10 : Nat → FieldType := fun k => match k with
  | _ => .int
abbrev wsJ100 : List Cond := u_ws RJ10 TJ10 0
theorem nmJ10 : ∀ a, a < 0 → ∀ b, b < 0 → a ≠ b → (TJ10 a).2.1 ≠ (TJ10 b).2.1 := by decide +kernel
theorem tyJ10_ok : ∀ k, k < 0 → parseFieldDescriptor (TJ10 k).2.2.1 = some (tyJ10 k) := by decide +kernel
def RJ3 : String := "jdk/internal/util/Preconditions"
def TJ3 : u_T := fun k => match k with
  | _ => ("", "", "", false)
def tyJ3 : Nat → FieldType := fun k => match k with
  | _ => .int
abbrev wsJ30 : List Cond := u_ws RJ3 TJ3 0
theorem nmJ3 : ∀ a, a < 0 → ∀ b, b < 0 → a ≠ b → (TJ3 a).2.1 ≠ (TJ3 b).2.1 := by decide +kernel
theorem tyJ3_ok : ∀ k, k < 0 → parseFieldDescriptor (TJ3 k).2.2.1 = some (tyJ3 k) := by decide +kernel
abbrev cJ3_checkIndex_8e157 : ByteArray := prog_13_method_11_code
def yJ3_checkIndex_8e157 : MethodName := ⟨RJ3, "checkIndex", "(IILjava/util/function/BiFunction;)I"⟩
def RL : String := "TrueMapsLaw"
abbrev cL_law : ByteArray := code
def yL_law : MethodName := ⟨RL, "law", "([I)Z"⟩
abbrev vwCl : List vw_C := [(RX0, TX0, 3), (RX1, TX1, 6), (RX2, TX2, 10), (RX3, TX3, 7), (RX4, TX4, 19)]
end
section
theorem dX0_init_0 : decode cX0_init 0 = .ok (.aload_n 0, 1) := by decide +kernel
theorem dX0_init_1 : decode cX0_init 1 = .ok (.invokespecial 3, 3) := by decide +kernel
theorem dX0_init_4 : decode cX0_init 4 = .ok (.aload_n 0, 1) := by decide +kernel
theorem dX0_init_5 : decode cX0_init 5 = .ok (.bipush 40, 2) := by decide +kernel
theorem dX0_init_7 : decode cX0_init 7 = .ok (.newarray .long, 2) := by decide +kernel
theorem dX0_init_9 : decode cX0_init 9 = .ok (.putfield 9, 3) := by decide +kernel
theorem dX0_init_12 : decode cX0_init 12 = .ok (.return_, 1) := by decide +kernel
theorem dX0_isMissing_0 : decode cX0_isMissing 0 = .ok (.aload_n 0, 1) := by decide +kernel
theorem dX0_isMissing_1 : decode cX0_isMissing 1 = .ok (.getfield 15, 3) := by decide +kernel
theorem dX0_isMissing_4 : decode cX0_isMissing 4 = .ok (.ifCond .ne 7, 3) := by decide +kernel
theorem dX0_isMissing_7 : decode cX0_isMissing 7 = .ok (.iconst 1, 1) := by decide +kernel
theorem dX0_isMissing_8 : decode cX0_isMissing 8 = .ok (.goto 4, 3) := by decide +kernel
theorem dX0_isMissing_11 : decode cX0_isMissing 11 = .ok (.iconst 0, 1) := by decide +kernel
theorem dX0_isMissing_12 : decode cX0_isMissing 12 = .ok (.ireturn, 1) := by decide +kernel
theorem dX0_clear_0 : decode cX0_clear 0 = .ok (.iconst 0, 1) := by decide +kernel
theorem dX0_clear_1 : decode cX0_clear 1 = .ok (.istore_n 3, 1) := by decide +kernel
theorem dX0_clear_2 : decode cX0_clear 2 = .ok (.iload_n 3, 1) := by decide +kernel
theorem dX0_clear_3 : decode cX0_clear 3 = .ok (.bipush 40, 2) := by decide +kernel
theorem dX0_clear_5 : decode cX0_clear 5 = .ok (.if_icmp .ge 16, 3) := by decide +kernel
theorem dX0_clear_8 : decode cX0_clear 8 = .ok (.aload_n 0, 1) := by decide +kernel
theorem dX0_clear_9 : decode cX0_clear 9 = .ok (.getfield 9, 3) := by decide +kernel
theorem dX0_clear_12 : decode cX0_clear 12 = .ok (.iload_n 3, 1) := by decide +kernel
theorem dX0_clear_13 : decode cX0_clear 13 = .ok (.lconst 0, 1) := by decide +kernel
theorem dX0_clear_14 : decode cX0_clear 14 = .ok (.lastore, 1) := by decide +kernel
theorem dX0_clear_15 : decode cX0_clear 15 = .ok (.iinc 3 1, 3) := by decide +kernel
theorem dX0_clear_18 : decode cX0_clear 18 = .ok (.goto (-16), 3) := by decide +kernel
theorem dX0_clear_21 : decode cX0_clear 21 = .ok (.aload_n 0, 1) := by decide +kernel
theorem dX0_clear_22 : decode cX0_clear 22 = .ok (.iload_n 1, 1) := by decide +kernel
theorem dX0_clear_23 : decode cX0_clear 23 = .ok (.putfield 15, 3) := by decide +kernel
theorem dX0_clear_26 : decode cX0_clear 26 = .ok (.aload_n 0, 1) := by decide +kernel
theorem dX0_clear_27 : decode cX0_clear 27 = .ok (.iload_n 1, 1) := by decide +kernel
theorem dX0_clear_28 : decode cX0_clear 28 = .ok (.ifCond .ne 7, 3) := by decide +kernel
theorem dX0_clear_31 : decode cX0_clear 31 = .ok (.iconst 0, 1) := by decide +kernel
theorem dX0_clear_32 : decode cX0_clear 32 = .ok (.goto 4, 3) := by decide +kernel
theorem dX0_clear_35 : decode cX0_clear 35 = .ok (.iload_n 2, 1) := by decide +kernel
theorem dX0_clear_36 : decode cX0_clear 36 = .ok (.putfield 19, 3) := by decide +kernel
theorem dX0_clear_39 : decode cX0_clear 39 = .ok (.return_, 1) := by decide +kernel
theorem dX0_put_0 : decode cX0_put 0 = .ok (.aload_n 0, 1) := by decide +kernel
theorem dX0_put_1 : decode cX0_put 1 = .ok (.getfield 9, 3) := by decide +kernel
theorem dX0_put_4 : decode cX0_put 4 = .ok (.iload_n 1, 1) := by decide +kernel
theorem dX0_put_5 : decode cX0_put 5 = .ok (.laload, 1) := by decide +kernel
theorem dX0_put_6 : decode cX0_put 6 = .ok (.lstore 4, 2) := by decide +kernel
theorem dX0_put_8 : decode cX0_put 8 = .ok (.aload_n 0, 1) := by decide +kernel
theorem dX0_put_9 : decode cX0_put 9 = .ok (.getfield 9, 3) := by decide +kernel
theorem dX0_put_12 : decode cX0_put 12 = .ok (.iload_n 1, 1) := by decide +kernel
theorem dX0_put_13 : decode cX0_put 13 = .ok (.aload_n 0, 1) := by decide +kernel
theorem dX0_put_14 : decode cX0_put 14 = .ok (.lload_n 2, 1) := by decide +kernel
theorem dX0_put_15 : decode cX0_put 15 = .ok (.invokevirtual 22, 3) := by decide +kernel
theorem dX0_put_18 : decode cX0_put 18 = .ok (.lastore, 1) := by decide +kernel
theorem dX0_put_19 : decode cX0_put 19 = .ok (.lload 4, 2) := by decide +kernel
theorem dX0_put_21 : decode cX0_put 21 = .ok (.lreturn, 1) := by decide +kernel
theorem dX0_cut_0 : decode cX0_cut 0 = .ok (.aload_n 0, 1) := by decide +kernel
theorem dX0_cut_1 : decode cX0_cut 1 = .ok (.getfield 15, 3) := by decide +kernel
theorem dX0_cut_4 : decode cX0_cut 4 = .ok (.bipush 8, 2) := by decide +kernel
theorem dX0_cut_6 : decode cX0_cut 6 = .ok (.if_icmp .ne 8, 3) := by decide +kernel
theorem dX0_cut_9 : decode cX0_cut 9 = .ok (.lload_n 1, 1) := by decide +kernel
theorem dX0_cut_10 : decode cX0_cut 10 = .ok (.l2i, 1) := by decide +kernel
theorem dX0_cut_11 : decode cX0_cut 11 = .ok (.i2b, 1) := by decide +kernel
theorem dX0_cut_12 : decode cX0_cut 12 = .ok (.i2l, 1) := by decide +kernel
theorem dX0_cut_13 : decode cX0_cut 13 = .ok (.lreturn, 1) := by decide +kernel
theorem dX0_cut_14 : decode cX0_cut 14 = .ok (.aload_n 0, 1) := by decide +kernel
theorem dX0_cut_15 : decode cX0_cut 15 = .ok (.getfield 15, 3) := by decide +kernel
theorem dX0_cut_18 : decode cX0_cut 18 = .ok (.bipush 16, 2) := by decide +kernel
theorem dX0_cut_20 : decode cX0_cut 20 = .ok (.if_icmp .ne 10, 3) := by decide +kernel
theorem dX0_cut_23 : decode cX0_cut 23 = .ok (.lload_n 1, 1) := by decide +kernel
theorem dX0_cut_24 : decode cX0_cut 24 = .ok (.l2i, 1) := by decide +kernel
theorem dX0_cut_25 : decode cX0_cut 25 = .ok (.i2s, 1) := by decide +kernel
theorem dX0_cut_26 : decode cX0_cut 26 = .ok (.i2l, 1) := by decide +kernel
theorem dX0_cut_27 : decode cX0_cut 27 = .ok (.goto 4, 3) := by decide +kernel
theorem dX0_cut_30 : decode cX0_cut 30 = .ok (.lload_n 1, 1) := by decide +kernel
theorem dX0_cut_31 : decode cX0_cut 31 = .ok (.lreturn, 1) := by decide +kernel
theorem dX0_hasPart_0 : decode cX0_hasPart 0 = .ok (.iload_n 1, 1) := by decide +kernel
theorem dX0_hasPart_1 : decode cX0_hasPart 1 = .ok (.ifCond .lt 29, 3) := by decide +kernel
theorem dX0_hasPart_4 : decode cX0_hasPart 4 = .ok (.iload_n 2, 1) := by decide +kernel
theorem dX0_hasPart_5 : decode cX0_hasPart 5 = .ok (.ifCond .lt 25, 3) := by decide +kernel
theorem dX0_hasPart_8 : decode cX0_hasPart 8 = .ok (.iload_n 2, 1) := by decide +kernel
theorem dX0_hasPart_9 : decode cX0_hasPart 9 = .ok (.aload_n 0, 1) := by decide +kernel
theorem dX0_hasPart_10 : decode cX0_hasPart 10 = .ok (.getfield 19, 3) := by decide +kernel
theorem dX0_hasPart_13 : decode cX0_hasPart 13 = .ok (.if_icmp .gt 17, 3) := by decide +kernel
theorem dX0_hasPart_16 : decode cX0_hasPart 16 = .ok (.iload_n 1, 1) := by decide +kernel
theorem dX0_hasPart_17 : decode cX0_hasPart 17 = .ok (.aload_n 0, 1) := by decide +kernel
theorem dX0_hasPart_18 : decode cX0_hasPart 18 = .ok (.getfield 19, 3) := by decide +kernel
theorem dX0_hasPart_21 : decode cX0_hasPart 21 = .ok (.iload_n 2, 1) := by decide +kernel
theorem dX0_hasPart_22 : decode cX0_hasPart 22 = .ok (.isub, 1) := by decide +kernel
theorem dX0_hasPart_23 : decode cX0_hasPart 23 = .ok (.if_icmp .gt 7, 3) := by decide +kernel
theorem dX0_hasPart_26 : decode cX0_hasPart 26 = .ok (.iconst 1, 1) := by decide +kernel
theorem dX0_hasPart_27 : decode cX0_hasPart 27 = .ok (.goto 4, 3) := by decide +kernel
theorem dX0_hasPart_30 : decode cX0_hasPart 30 = .ok (.iconst 0, 1) := by decide +kernel
theorem dX0_hasPart_31 : decode cX0_hasPart 31 = .ok (.ireturn, 1) := by decide +kernel
theorem dX1_init_0 : decode cX1_init 0 = .ok (.aload_n 0, 1) := by decide +kernel
theorem dX1_init_1 : decode cX1_init 1 = .ok (.invokespecial 3, 3) := by decide +kernel
theorem dX1_init_4 : decode cX1_init 4 = .ok (.aload_n 0, 1) := by decide +kernel
theorem dX1_init_5 : decode cX1_init 5 = .ok (.bipush 120, 2) := by decide +kernel
theorem dX1_init_7 : decode cX1_init 7 = .ok (.newarray .int, 2) := by decide +kernel
theorem dX1_init_9 : decode cX1_init 9 = .ok (.putfield 9, 3) := by decide +kernel
theorem dX1_init_12 : decode cX1_init 12 = .ok (.return_, 1) := by decide +kernel
theorem dX1_readInto_0 : decode cX1_readInto 0 = .ok (.aload_n 0, 1) := by decide +kernel
theorem dX1_readInto_1 : decode cX1_readInto 1 = .ok (.iconst 0, 1) := by decide +kernel
theorem dX1_readInto_2 : decode cX1_readInto 2 = .ok (.putfield 15, 3) := by decide +kernel
theorem dX1_readInto_5 : decode cX1_readInto 5 = .ok (.aload_n 0, 1) := by decide +kernel
theorem dX1_readInto_6 : decode cX1_readInto 6 = .ok (.invokevirtual 19, 3) := by decide +kernel
theorem dX1_readInto_9 : decode cX1_readInto 9 = .ok (.iconst 1, 1) := by decide +kernel
theorem dX1_readInto_10 : decode cX1_readInto 10 = .ok (.istore_n 2, 1) := by decide +kernel
theorem dX1_readInto_11 : decode cX1_readInto 11 = .ok (.iload_n 2, 1) := by decide +kernel
theorem dX1_readInto_12 : decode cX1_readInto 12 = .ok (.bipush 120, 2) := by decide +kernel
theorem dX1_readInto_14 : decode cX1_readInto 14 = .ok (.if_icmp .gt 52, 3) := by decide +kernel
theorem dX1_readInto_17 : decode cX1_readInto 17 = .ok (.aload_n 0, 1) := by decide +kernel
theorem dX1_readInto_18 : decode cX1_readInto 18 = .ok (.aload_n 1, 1) := by decide +kernel
theorem dX1_readInto_19 : decode cX1_readInto 19 = .ok (.invokevirtual 22, 3) := by decide +kernel
theorem dX1_readInto_22 : decode cX1_readInto 22 = .ok (.ifCond .ne 10, 3) := by decide +kernel
theorem dX1_readInto_25 : decode cX1_readInto 25 = .ok (.iconst (-1), 1) := by decide +kernel
theorem dX1_readInto_26 : decode cX1_readInto 26 = .ok (.aload_n 0, 1) := by decide +kernel
theorem dX1_readInto_27 : decode cX1_readInto 27 = .ok (.getfield 26, 3) := by decide +kernel
theorem dX1_readInto_30 : decode cX1_readInto 30 = .ok (.isub, 1) := by decide +kernel
theorem dX1_readInto_31 : decode cX1_readInto 31 = .ok (.ireturn, 1) := by decide +kernel
theorem dX1_readInto_32 : decode cX1_readInto 32 = .ok (.aload_n 0, 1) := by decide +kernel
theorem dX1_readInto_33 : decode cX1_readInto 33 = .ok (.getfield 29, 3) := by decide +kernel
theorem dX1_readInto_36 : decode cX1_readInto 36 = .ok (.ifCond .ne 5, 3) := by decide +kernel
theorem dX1_readInto_39 : decode cX1_readInto 39 = .ok (.iload_n 2, 1) := by decide +kernel
theorem dX1_readInto_40 : decode cX1_readInto 40 = .ok (.ireturn, 1) := by decide +kernel
theorem dX1_readInto_41 : decode cX1_readInto 41 = .ok (.aload_n 0, 1) := by decide +kernel
theorem dX1_readInto_42 : decode cX1_readInto 42 = .ok (.getfield 29, 3) := by decide +kernel
theorem dX1_readInto_45 : decode cX1_readInto 45 = .ok (.iconst 3, 1) := by decide +kernel
theorem dX1_readInto_46 : decode cX1_readInto 46 = .ok (.if_icmp .eq 10, 3) := by decide +kernel
theorem dX1_readInto_49 : decode cX1_readInto 49 = .ok (.iconst (-1), 1) := by decide +kernel
theorem dX1_readInto_50 : decode cX1_readInto 50 = .ok (.aload_n 0, 1) := by decide +kernel
theorem dX1_readInto_51 : decode cX1_readInto 51 = .ok (.getfield 26, 3) := by decide +kernel
theorem dX1_readInto_54 : decode cX1_readInto 54 = .ok (.isub, 1) := by decide +kernel
theorem dX1_readInto_55 : decode cX1_readInto 55 = .ok (.ireturn, 1) := by decide +kernel
theorem dX1_readInto_56 : decode cX1_readInto 56 = .ok (.aload_n 0, 1) := by decide +kernel
theorem dX1_readInto_57 : decode cX1_readInto 57 = .ok (.invokevirtual 19, 3) := by decide +kernel
theorem dX1_readInto_60 : decode cX1_readInto 60 = .ok (.iinc 2 1, 3) := by decide +kernel
theorem dX1_readInto_63 : decode cX1_readInto 63 = .ok (.goto (-52), 3) := by decide +kernel
theorem dX1_readInto_66 : decode cX1_readInto 66 = .ok (.iconst (-1), 1) := by decide +kernel
theorem dX1_readInto_67 : decode cX1_readInto 67 = .ok (.aload_n 0, 1) := by decide +kernel
theorem dX1_readInto_68 : decode cX1_readInto 68 = .ok (.getfield 26, 3) := by decide +kernel
theorem dX1_readInto_71 : decode cX1_readInto 71 = .ok (.isub, 1) := by decide +kernel
theorem dX1_readInto_72 : decode cX1_readInto 72 = .ok (.ireturn, 1) := by decide +kernel
theorem dX1_readItem_0 : decode cX1_readItem 0 = .ok (.aload_n 0, 1) := by decide +kernel
theorem dX1_readItem_1 : decode cX1_readItem 1 = .ok (.invokevirtual 32, 3) := by decide +kernel
theorem dX1_readItem_4 : decode cX1_readItem 4 = .ok (.istore_n 2, 1) := by decide +kernel
theorem dX1_readItem_5 : decode cX1_readItem 5 = .ok (.iload_n 2, 1) := by decide +kernel
theorem dX1_readItem_6 : decode cX1_readItem 6 = .ok (.ifCond .lt 10, 3) := by decide +kernel
theorem dX1_readItem_9 : decode cX1_readItem 9 = .ok (.aload_n 0, 1) := by decide +kernel
theorem dX1_readItem_10 : decode cX1_readItem 10 = .ok (.aload_n 1, 1) := by decide +kernel
theorem dX1_readItem_11 : decode cX1_readItem 11 = .ok (.iload_n 2, 1) := by decide +kernel
theorem dX1_readItem_12 : decode cX1_readItem 12 = .ok (.invokevirtual 36, 3) := by decide +kernel
theorem dX1_readItem_15 : decode cX1_readItem 15 = .ok (.ireturn, 1) := by decide +kernel
theorem dX1_readItem_16 : decode cX1_readItem 16 = .ok (.aload_n 0, 1) := by decide +kernel
theorem dX1_readItem_17 : decode cX1_readItem 17 = .ok (.ldc 40, 2) := by decide +kernel
theorem dX1_readItem_19 : decode cX1_readItem 19 = .ok (.invokevirtual 42, 3) := by decide +kernel
theorem dX1_readItem_22 : decode cX1_readItem 22 = .ok (.ifCond .eq 10, 3) := by decide +kernel
theorem dX1_readItem_25 : decode cX1_readItem 25 = .ok (.aload_n 0, 1) := by decide +kernel
theorem dX1_readItem_26 : decode cX1_readItem 26 = .ok (.aload_n 1, 1) := by decide +kernel
theorem dX1_readItem_27 : decode cX1_readItem 27 = .ok (.iconst 0, 1) := by decide +kernel
theorem dX1_readItem_28 : decode cX1_readItem 28 = .ok (.invokevirtual 46, 3) := by decide +kernel
theorem dX1_readItem_31 : decode cX1_readItem 31 = .ok (.ireturn, 1) := by decide +kernel
theorem dX1_readItem_32 : decode cX1_readItem 32 = .ok (.aload_n 0, 1) := by decide +kernel
theorem dX1_readItem_33 : decode cX1_readItem 33 = .ok (.ldc 49, 2) := by decide +kernel
theorem dX1_readItem_35 : decode cX1_readItem 35 = .ok (.invokevirtual 42, 3) := by decide +kernel
theorem dX1_readItem_38 : decode cX1_readItem 38 = .ok (.ifCond .eq 10, 3) := by decide +kernel
theorem dX1_readItem_41 : decode cX1_readItem 41 = .ok (.aload_n 0, 1) := by decide +kernel
theorem dX1_readItem_42 : decode cX1_readItem 42 = .ok (.aload_n 1, 1) := by decide +kernel
theorem dX1_readItem_43 : decode cX1_readItem 43 = .ok (.iconst 1, 1) := by decide +kernel
theorem dX1_readItem_44 : decode cX1_readItem 44 = .ok (.invokevirtual 46, 3) := by decide +kernel
theorem dX1_readItem_47 : decode cX1_readItem 47 = .ok (.ireturn, 1) := by decide +kernel
theorem dX1_readItem_48 : decode cX1_readItem 48 = .ok (.aload_n 0, 1) := by decide +kernel
theorem dX1_readItem_49 : decode cX1_readItem 49 = .ok (.ldc 51, 2) := by decide +kernel
theorem dX1_readItem_51 : decode cX1_readItem 51 = .ok (.invokevirtual 42, 3) := by decide +kernel
theorem dX1_readItem_54 : decode cX1_readItem 54 = .ok (.ifCond .eq 15, 3) := by decide +kernel
theorem dX1_readItem_57 : decode cX1_readItem 57 = .ok (.aload_n 0, 1) := by decide +kernel
theorem dX1_readItem_58 : decode cX1_readItem 58 = .ok (.aload_n 1, 1) := by decide +kernel
theorem dX1_readItem_59 : decode cX1_readItem 59 = .ok (.invokevirtual 53, 3) := by decide +kernel
theorem dX1_readItem_62 : decode cX1_readItem 62 = .ok (.ifCond .eq 7, 3) := by decide +kernel
theorem dX1_readItem_65 : decode cX1_readItem 65 = .ok (.iconst 1, 1) := by decide +kernel
theorem dX1_readItem_66 : decode cX1_readItem 66 = .ok (.goto 4, 3) := by decide +kernel
theorem dX1_readItem_69 : decode cX1_readItem 69 = .ok (.iconst 0, 1) := by decide +kernel
theorem dX1_readItem_70 : decode cX1_readItem 70 = .ok (.ireturn, 1) := by decide +kernel
theorem dX1_readMender_0 : decode cX1_readMender 0 = .ok (.aload_n 1, 1) := by decide +kernel
theorem dX1_readMender_1 : decode cX1_readMender 1 = .ok (.getfield 56, 3) := by decide +kernel
theorem dX1_readMender_4 : decode cX1_readMender 4 = .ok (.bipush 6, 2) := by decide +kernel
theorem dX1_readMender_6 : decode cX1_readMender 6 = .ok (.if_icmp .lt 5, 3) := by decide +kernel
theorem dX1_readMender_9 : decode cX1_readMender 9 = .ok (.iconst 0, 1) := by decide +kernel
theorem dX1_readMender_10 : decode cX1_readMender 10 = .ok (.ireturn, 1) := by decide +kernel
theorem dX1_readMender_11 : decode cX1_readMender 11 = .ok (.aload_n 0, 1) := by decide +kernel
theorem dX1_readMender_12 : decode cX1_readMender 12 = .ok (.invokevirtual 19, 3) := by decide +kernel
theorem dX1_readMender_15 : decode cX1_readMender 15 = .ok (.aload_n 0, 1) := by decide +kernel
theorem dX1_readMender_16 : decode cX1_readMender 16 = .ok (.ldc 61, 2) := by decide +kernel
theorem dX1_readMender_18 : decode cX1_readMender 18 = .ok (.invokevirtual 42, 3) := by decide +kernel
theorem dX1_readMender_21 : decode cX1_readMender 21 = .ok (.ifCond .ne 5, 3) := by decide +kernel
theorem dX1_readMender_24 : decode cX1_readMender 24 = .ok (.iconst 0, 1) := by decide +kernel
theorem dX1_readMender_25 : decode cX1_readMender 25 = .ok (.ireturn, 1) := by decide +kernel
theorem dX1_readMender_26 : decode cX1_readMender 26 = .ok (.aload_n 0, 1) := by decide +kernel
theorem dX1_readMender_27 : decode cX1_readMender 27 = .ok (.invokevirtual 19, 3) := by decide +kernel
theorem dX1_readMender_30 : decode cX1_readMender 30 = .ok (.aload_n 0, 1) := by decide +kernel
theorem dX1_readMender_31 : decode cX1_readMender 31 = .ok (.iconst 0, 1) := by decide +kernel
theorem dX1_readMender_32 : decode cX1_readMender 32 = .ok (.bipush 47, 2) := by decide +kernel
theorem dX1_readMender_34 : decode cX1_readMender 34 = .ok (.invokevirtual 63, 3) := by decide +kernel
theorem dX1_readMender_37 : decode cX1_readMender 37 = .ok (.ifCond .ne 5, 3) := by decide +kernel
theorem dX1_readMender_40 : decode cX1_readMender 40 = .ok (.iconst 0, 1) := by decide +kernel
theorem dX1_readMender_41 : decode cX1_readMender 41 = .ok (.ireturn, 1) := by decide +kernel
theorem dX1_readMender_42 : decode cX1_readMender 42 = .ok (.aload_n 0, 1) := by decide +kernel
theorem dX1_readMender_43 : decode cX1_readMender 43 = .ok (.getfield 67, 3) := by decide +kernel
theorem dX1_readMender_46 : decode cX1_readMender 46 = .ok (.istore_n 3, 1) := by decide +kernel
theorem dX1_readMender_47 : decode cX1_readMender 47 = .ok (.bipush 50, 2) := by decide +kernel
theorem dX1_readMender_49 : decode cX1_readMender 49 = .ok (.istore 4, 2) := by decide +kernel
theorem dX1_readMender_51 : decode cX1_readMender 51 = .ok (.aload_n 0, 1) := by decide +kernel
theorem dX1_readMender_52 : decode cX1_readMender 52 = .ok (.invokevirtual 19, 3) := by decide +kernel
theorem dX1_readMender_55 : decode cX1_readMender 55 = .ok (.aload_n 0, 1) := by decide +kernel
theorem dX1_readMender_56 : decode cX1_readMender 56 = .ok (.ldc 70, 2) := by decide +kernel
theorem dX1_readMender_58 : decode cX1_readMender 58 = .ok (.invokevirtual 42, 3) := by decide +kernel
theorem dX1_readMender_61 : decode cX1_readMender 61 = .ok (.ifCond .eq 30, 3) := by decide +kernel
theorem dX1_readMender_64 : decode cX1_readMender 64 = .ok (.aload_n 0, 1) := by decide +kernel
theorem dX1_readMender_65 : decode cX1_readMender 65 = .ok (.invokevirtual 19, 3) := by decide +kernel
theorem dX1_readMender_68 : decode cX1_readMender 68 = .ok (.aload_n 0, 1) := by decide +kernel
theorem dX1_readMender_69 : decode cX1_readMender 69 = .ok (.iconst 0, 1) := by decide +kernel
theorem dX1_readMender_70 : decode cX1_readMender 70 = .ok (.sipush 9999, 3) := by decide +kernel
theorem dX1_readMender_73 : decode cX1_readMender 73 = .ok (.invokevirtual 63, 3) := by decide +kernel
theorem dX1_readMender_76 : decode cX1_readMender 76 = .ok (.ifCond .ne 5, 3) := by decide +kernel
theorem dX1_readMender_79 : decode cX1_readMender 79 = .ok (.iconst 0, 1) := by decide +kernel
theorem dX1_readMender_80 : decode cX1_readMender 80 = .ok (.ireturn, 1) := by decide +kernel
theorem dX1_readMender_81 : decode cX1_readMender 81 = .ok (.aload_n 0, 1) := by decide +kernel
theorem dX1_readMender_82 : decode cX1_readMender 82 = .ok (.getfield 67, 3) := by decide +kernel
theorem dX1_readMender_85 : decode cX1_readMender 85 = .ok (.istore 4, 2) := by decide +kernel
theorem dX1_readMender_87 : decode cX1_readMender 87 = .ok (.aload_n 0, 1) := by decide +kernel
theorem dX1_readMender_88 : decode cX1_readMender 88 = .ok (.invokevirtual 19, 3) := by decide +kernel
theorem dX1_readMender_91 : decode cX1_readMender 91 = .ok (.aload_n 1, 1) := by decide +kernel
theorem dX1_readMender_92 : decode cX1_readMender 92 = .ok (.iload_n 2, 1) := by decide +kernel
theorem dX1_readMender_93 : decode cX1_readMender 93 = .ok (.iload_n 3, 1) := by decide +kernel
theorem dX1_readMender_94 : decode cX1_readMender 94 = .ok (.iload 4, 2) := by decide +kernel
theorem dX1_readMender_96 : decode cX1_readMender 96 = .ok (.invokevirtual 72, 3) := by decide +kernel
theorem dX1_readMender_99 : decode cX1_readMender 99 = .ok (.pop, 1) := by decide +kernel
theorem dX1_readMender_100 : decode cX1_readMender 100 = .ok (.iconst 1, 1) := by decide +kernel
theorem dX1_readMender_101 : decode cX1_readMender 101 = .ok (.ireturn, 1) := by decide +kernel
theorem dX1_readCells_0 : decode cX1_readCells 0 = .ok (.aload_n 0, 1) := by decide +kernel
theorem dX1_readCells_1 : decode cX1_readCells 1 = .ok (.invokevirtual 19, 3) := by decide +kernel
theorem dX1_readCells_4 : decode cX1_readCells 4 = .ok (.aload_n 0, 1) := by decide +kernel
theorem dX1_readCells_5 : decode cX1_readCells 5 = .ok (.iconst 0, 1) := by decide +kernel
theorem dX1_readCells_6 : decode cX1_readCells 6 = .ok (.bipush 47, 2) := by decide +kernel
theorem dX1_readCells_8 : decode cX1_readCells 8 = .ok (.invokevirtual 63, 3) := by decide +kernel
theorem dX1_readCells_11 : decode cX1_readCells 11 = .ok (.ifCond .ne 5, 3) := by decide +kernel
theorem dX1_readCells_14 : decode cX1_readCells 14 = .ok (.iconst 0, 1) := by decide +kernel
theorem dX1_readCells_15 : decode cX1_readCells 15 = .ok (.ireturn, 1) := by decide +kernel
theorem dX1_readCells_16 : decode cX1_readCells 16 = .ok (.aload_n 0, 1) := by decide +kernel
theorem dX1_readCells_17 : decode cX1_readCells 17 = .ok (.getfield 67, 3) := by decide +kernel
theorem dX1_readCells_20 : decode cX1_readCells 20 = .ok (.istore_n 3, 1) := by decide +kernel
theorem dX1_readCells_21 : decode cX1_readCells 21 = .ok (.aload_n 0, 1) := by decide +kernel
theorem dX1_readCells_22 : decode cX1_readCells 22 = .ok (.getfield 67, 3) := by decide +kernel
theorem dX1_readCells_25 : decode cX1_readCells 25 = .ok (.istore 4, 2) := by decide +kernel
theorem dX1_readCells_27 : decode cX1_readCells 27 = .ok (.aload_n 0, 1) := by decide +kernel
theorem dX1_readCells_28 : decode cX1_readCells 28 = .ok (.invokevirtual 19, 3) := by decide +kernel
theorem dX1_readCells_31 : decode cX1_readCells 31 = .ok (.aload_n 0, 1) := by decide +kernel
theorem dX1_readCells_32 : decode cX1_readCells 32 = .ok (.invokevirtual 76, 3) := by decide +kernel
theorem dX1_readCells_35 : decode cX1_readCells 35 = .ok (.istore 5, 2) := by decide +kernel
theorem dX1_readCells_37 : decode cX1_readCells 37 = .ok (.iload 5, 2) := by decide +kernel
theorem dX1_readCells_39 : decode cX1_readCells 39 = .ok (.ifCond .ge 5, 3) := by decide +kernel
theorem dX1_readCells_42 : decode cX1_readCells 42 = .ok (.iconst 0, 1) := by decide +kernel
theorem dX1_readCells_43 : decode cX1_readCells 43 = .ok (.ireturn, 1) := by decide +kernel
theorem dX1_readCells_44 : decode cX1_readCells 44 = .ok (.aload_n 0, 1) := by decide +kernel
theorem dX1_readCells_45 : decode cX1_readCells 45 = .ok (.invokevirtual 19, 3) := by decide +kernel
theorem dX1_readCells_48 : decode cX1_readCells 48 = .ok (.aload_n 0, 1) := by decide +kernel
theorem dX1_readCells_49 : decode cX1_readCells 49 = .ok (.ldc 79, 2) := by decide +kernel
theorem dX1_readCells_51 : decode cX1_readCells 51 = .ok (.invokevirtual 42, 3) := by decide +kernel
theorem dX1_readCells_54 : decode cX1_readCells 54 = .ok (.ifCond .eq 29, 3) := by decide +kernel
theorem dX1_readCells_57 : decode cX1_readCells 57 = .ok (.aload_n 0, 1) := by decide +kernel
theorem dX1_readCells_58 : decode cX1_readCells 58 = .ok (.invokevirtual 19, 3) := by decide +kernel
theorem dX1_readCells_61 : decode cX1_readCells 61 = .ok (.aload_n 0, 1) := by decide +kernel
theorem dX1_readCells_62 : decode cX1_readCells 62 = .ok (.iload_n 3, 1) := by decide +kernel
theorem dX1_readCells_63 : decode cX1_readCells 63 = .ok (.bipush 47, 2) := by decide +kernel
theorem dX1_readCells_65 : decode cX1_readCells 65 = .ok (.invokevirtual 63, 3) := by decide +kernel
theorem dX1_readCells_68 : decode cX1_readCells 68 = .ok (.ifCond .ne 5, 3) := by decide +kernel
theorem dX1_readCells_71 : decode cX1_readCells 71 = .ok (.iconst 0, 1) := by decide +kernel
theorem dX1_readCells_72 : decode cX1_readCells 72 = .ok (.ireturn, 1) := by decide +kernel
theorem dX1_readCells_73 : decode cX1_readCells 73 = .ok (.aload_n 0, 1) := by decide +kernel
theorem dX1_readCells_74 : decode cX1_readCells 74 = .ok (.getfield 67, 3) := by decide +kernel
theorem dX1_readCells_77 : decode cX1_readCells 77 = .ok (.istore 4, 2) := by decide +kernel
theorem dX1_readCells_79 : decode cX1_readCells 79 = .ok (.aload_n 0, 1) := by decide +kernel
theorem dX1_readCells_80 : decode cX1_readCells 80 = .ok (.invokevirtual 19, 3) := by decide +kernel
theorem dX1_readCells_83 : decode cX1_readCells 83 = .ok (.iload_n 3, 1) := by decide +kernel
theorem dX1_readCells_84 : decode cX1_readCells 84 = .ok (.istore 6, 2) := by decide +kernel
theorem dX1_readCells_86 : decode cX1_readCells 86 = .ok (.iload 6, 2) := by decide +kernel
theorem dX1_readCells_88 : decode cX1_readCells 88 = .ok (.iload 4, 2) := by decide +kernel
theorem dX1_readCells_90 : decode cX1_readCells 90 = .ok (.if_icmp .gt 19, 3) := by decide +kernel
theorem dX1_readCells_93 : decode cX1_readCells 93 = .ok (.aload_n 1, 1) := by decide +kernel
theorem dX1_readCells_94 : decode cX1_readCells 94 = .ok (.iload_n 2, 1) := by decide +kernel
theorem dX1_readCells_95 : decode cX1_readCells 95 = .ok (.iload 6, 2) := by decide +kernel
theorem dX1_readCells_97 : decode cX1_readCells 97 = .ok (.iload 5, 2) := by decide +kernel
theorem dX1_readCells_99 : decode cX1_readCells 99 = .ok (.invokevirtual 81, 3) := by decide +kernel
theorem dX1_readCells_102 : decode cX1_readCells 102 = .ok (.pop, 1) := by decide +kernel
theorem dX1_readCells_103 : decode cX1_readCells 103 = .ok (.iinc 6 1, 3) := by decide +kernel
theorem dX1_readCells_106 : decode cX1_readCells 106 = .ok (.goto (-20), 3) := by decide +kernel
theorem dX1_readCells_109 : decode cX1_readCells 109 = .ok (.iconst 1, 1) := by decide +kernel
theorem dX1_readCells_110 : decode cX1_readCells 110 = .ok (.ireturn, 1) := by decide +kernel
theorem dX1_readIncome_0 : decode cX1_readIncome 0 = .ok (.aload_n 0, 1) := by decide +kernel
theorem dX1_readIncome_1 : decode cX1_readIncome 1 = .ok (.invokevirtual 19, 3) := by decide +kernel
theorem dX1_readIncome_4 : decode cX1_readIncome 4 = .ok (.aload_n 0, 1) := by decide +kernel
theorem dX1_readIncome_5 : decode cX1_readIncome 5 = .ok (.iconst 0, 1) := by decide +kernel
theorem dX1_readIncome_6 : decode cX1_readIncome 6 = .ok (.bipush 20, 2) := by decide +kernel
theorem dX1_readIncome_8 : decode cX1_readIncome 8 = .ok (.invokevirtual 63, 3) := by decide +kernel
theorem dX1_readIncome_11 : decode cX1_readIncome 11 = .ok (.ifCond .ne 5, 3) := by decide +kernel
theorem dX1_readIncome_14 : decode cX1_readIncome 14 = .ok (.iconst 0, 1) := by decide +kernel
theorem dX1_readIncome_15 : decode cX1_readIncome 15 = .ok (.ireturn, 1) := by decide +kernel
theorem dX1_readIncome_16 : decode cX1_readIncome 16 = .ok (.aload_n 1, 1) := by decide +kernel
theorem dX1_readIncome_17 : decode cX1_readIncome 17 = .ok (.aload_n 0, 1) := by decide +kernel
theorem dX1_readIncome_18 : decode cX1_readIncome 18 = .ok (.getfield 67, 3) := by decide +kernel
theorem dX1_readIncome_21 : decode cX1_readIncome 21 = .ok (.putfield 84, 3) := by decide +kernel
theorem dX1_readIncome_24 : decode cX1_readIncome 24 = .ok (.aload_n 0, 1) := by decide +kernel
theorem dX1_readIncome_25 : decode cX1_readIncome 25 = .ok (.invokevirtual 19, 3) := by decide +kernel
theorem dX1_readIncome_28 : decode cX1_readIncome 28 = .ok (.iconst 1, 1) := by decide +kernel
theorem dX1_readIncome_29 : decode cX1_readIncome 29 = .ok (.ireturn, 1) := by decide +kernel
theorem dX1_kindNamed_0 : decode cX1_kindNamed 0 = .ok (.iconst 0, 1) := by decide +kernel
theorem dX1_kindNamed_1 : decode cX1_kindNamed 1 = .ok (.istore_n 1, 1) := by decide +kernel
theorem dX1_kindNamed_2 : decode cX1_kindNamed 2 = .ok (.iload_n 1, 1) := by decide +kernel
theorem dX1_kindNamed_3 : decode cX1_kindNamed 3 = .ok (.bipush 6, 2) := by decide +kernel
theorem dX1_kindNamed_5 : decode cX1_kindNamed 5 = .ok (.if_icmp .ge 22, 3) := by decide +kernel
theorem dX1_kindNamed_8 : decode cX1_kindNamed 8 = .ok (.aload_n 0, 1) := by decide +kernel
theorem dX1_kindNamed_9 : decode cX1_kindNamed 9 = .ok (.iload_n 1, 1) := by decide +kernel
theorem dX1_kindNamed_10 : decode cX1_kindNamed 10 = .ok (.invokestatic 86, 3) := by decide +kernel
theorem dX1_kindNamed_13 : decode cX1_kindNamed 13 = .ok (.invokevirtual 42, 3) := by decide +kernel
theorem dX1_kindNamed_16 : decode cX1_kindNamed 16 = .ok (.ifCond .eq 5, 3) := by decide +kernel
theorem dX1_kindNamed_19 : decode cX1_kindNamed 19 = .ok (.iload_n 1, 1) := by decide +kernel
theorem dX1_kindNamed_20 : decode cX1_kindNamed 20 = .ok (.ireturn, 1) := by decide +kernel
theorem dX1_kindNamed_21 : decode cX1_kindNamed 21 = .ok (.iinc 1 1, 3) := by decide +kernel
theorem dX1_kindNamed_24 : decode cX1_kindNamed 24 = .ok (.goto (-22), 3) := by decide +kernel
theorem dX1_kindNamed_27 : decode cX1_kindNamed 27 = .ok (.iconst (-1), 1) := by decide +kernel
theorem dX1_kindNamed_28 : decode cX1_kindNamed 28 = .ok (.ireturn, 1) := by decide +kernel
theorem dX1_sortNamed_0 : decode cX1_sortNamed 0 = .ok (.iconst 0, 1) := by decide +kernel
theorem dX1_sortNamed_1 : decode cX1_sortNamed 1 = .ok (.istore_n 1, 1) := by decide +kernel
theorem dX1_sortNamed_2 : decode cX1_sortNamed 2 = .ok (.iload_n 1, 1) := by decide +kernel
theorem dX1_sortNamed_3 : decode cX1_sortNamed 3 = .ok (.bipush 6, 2) := by decide +kernel
theorem dX1_sortNamed_5 : decode cX1_sortNamed 5 = .ok (.if_icmp .ge 22, 3) := by decide +kernel
theorem dX1_sortNamed_8 : decode cX1_sortNamed 8 = .ok (.aload_n 0, 1) := by decide +kernel
theorem dX1_sortNamed_9 : decode cX1_sortNamed 9 = .ok (.iload_n 1, 1) := by decide +kernel
theorem dX1_sortNamed_10 : decode cX1_sortNamed 10 = .ok (.invokestatic 90, 3) := by decide +kernel
theorem dX1_sortNamed_13 : decode cX1_sortNamed 13 = .ok (.invokevirtual 42, 3) := by decide +kernel
theorem dX1_sortNamed_16 : decode cX1_sortNamed 16 = .ok (.ifCond .eq 5, 3) := by decide +kernel
theorem dX1_sortNamed_19 : decode cX1_sortNamed 19 = .ok (.iload_n 1, 1) := by decide +kernel
theorem dX1_sortNamed_20 : decode cX1_sortNamed 20 = .ok (.ireturn, 1) := by decide +kernel
theorem dX1_sortNamed_21 : decode cX1_sortNamed 21 = .ok (.iinc 1 1, 3) := by decide +kernel
theorem dX1_sortNamed_24 : decode cX1_sortNamed 24 = .ok (.goto (-22), 3) := by decide +kernel
theorem dX1_sortNamed_27 : decode cX1_sortNamed 27 = .ok (.iconst (-1), 1) := by decide +kernel
theorem dX1_sortNamed_28 : decode cX1_sortNamed 28 = .ok (.ireturn, 1) := by decide +kernel
theorem dX1_nameOfKind_0 : decode cX1_nameOfKind 0 = .ok (.iload_n 0, 1) := by decide +kernel
theorem dX1_nameOfKind_1 : decode cX1_nameOfKind 1 = .ok (.tableswitch 50 0 4 #[35, 38, 41, 44, 47], 35) := by decide +kernel
theorem dX1_nameOfKind_36 : decode cX1_nameOfKind 36 = .ok (.ldc 93, 2) := by decide +kernel
theorem dX1_nameOfKind_38 : decode cX1_nameOfKind 38 = .ok (.areturn, 1) := by decide +kernel
theorem dX1_nameOfKind_39 : decode cX1_nameOfKind 39 = .ok (.ldc 95, 2) := by decide +kernel
theorem dX1_nameOfKind_41 : decode cX1_nameOfKind 41 = .ok (.areturn, 1) := by decide +kernel
theorem dX1_nameOfKind_42 : decode cX1_nameOfKind 42 = .ok (.ldc 97, 2) := by decide +kernel
theorem dX1_nameOfKind_44 : decode cX1_nameOfKind 44 = .ok (.areturn, 1) := by decide +kernel
theorem dX1_nameOfKind_45 : decode cX1_nameOfKind 45 = .ok (.ldc 99, 2) := by decide +kernel
theorem dX1_nameOfKind_47 : decode cX1_nameOfKind 47 = .ok (.areturn, 1) := by decide +kernel
theorem dX1_nameOfKind_48 : decode cX1_nameOfKind 48 = .ok (.ldc 101, 2) := by decide +kernel
theorem dX1_nameOfKind_50 : decode cX1_nameOfKind 50 = .ok (.areturn, 1) := by decide +kernel
theorem dX1_nameOfKind_51 : decode cX1_nameOfKind 51 = .ok (.ldc 103, 2) := by decide +kernel
theorem dX1_nameOfKind_53 : decode cX1_nameOfKind 53 = .ok (.areturn, 1) := by decide +kernel
theorem dX1_nameOfSort_0 : decode cX1_nameOfSort 0 = .ok (.iload_n 0, 1) := by decide +kernel
theorem dX1_nameOfSort_1 : decode cX1_nameOfSort 1 = .ok (.tableswitch 50 0 4 #[35, 38, 41, 44, 47], 35) := by decide +kernel
theorem dX1_nameOfSort_36 : decode cX1_nameOfSort 36 = .ok (.ldc 105, 2) := by decide +kernel
theorem dX1_nameOfSort_38 : decode cX1_nameOfSort 38 = .ok (.areturn, 1) := by decide +kernel
theorem dX1_nameOfSort_39 : decode cX1_nameOfSort 39 = .ok (.ldc 107, 2) := by decide +kernel
theorem dX1_nameOfSort_41 : decode cX1_nameOfSort 41 = .ok (.areturn, 1) := by decide +kernel
theorem dX1_nameOfSort_42 : decode cX1_nameOfSort 42 = .ok (.ldc 109, 2) := by decide +kernel
theorem dX1_nameOfSort_44 : decode cX1_nameOfSort 44 = .ok (.areturn, 1) := by decide +kernel
theorem dX1_nameOfSort_45 : decode cX1_nameOfSort 45 = .ok (.ldc 111, 2) := by decide +kernel
theorem dX1_nameOfSort_47 : decode cX1_nameOfSort 47 = .ok (.areturn, 1) := by decide +kernel
theorem dX1_nameOfSort_48 : decode cX1_nameOfSort 48 = .ok (.ldc 113, 2) := by decide +kernel
theorem dX1_nameOfSort_50 : decode cX1_nameOfSort 50 = .ok (.areturn, 1) := by decide +kernel
theorem dX1_nameOfSort_51 : decode cX1_nameOfSort 51 = .ok (.ldc 115, 2) := by decide +kernel
theorem dX1_nameOfSort_53 : decode cX1_nameOfSort 53 = .ok (.areturn, 1) := by decide +kernel
theorem dX1_isWord_0 : decode cX1_isWord 0 = .ok (.aload_n 0, 1) := by decide +kernel
theorem dX1_isWord_1 : decode cX1_isWord 1 = .ok (.getfield 29, 3) := by decide +kernel
theorem dX1_isWord_4 : decode cX1_isWord 4 = .ok (.iconst 1, 1) := by decide +kernel
theorem dX1_isWord_5 : decode cX1_isWord 5 = .ok (.if_icmp .ne 19, 3) := by decide +kernel
theorem dX1_isWord_8 : decode cX1_isWord 8 = .ok (.aload_n 0, 1) := by decide +kernel
theorem dX1_isWord_9 : decode cX1_isWord 9 = .ok (.getfield 15, 3) := by decide +kernel
theorem dX1_isWord_12 : decode cX1_isWord 12 = .ok (.aload_n 0, 1) := by decide +kernel
theorem dX1_isWord_13 : decode cX1_isWord 13 = .ok (.getfield 26, 3) := by decide +kernel
theorem dX1_isWord_16 : decode cX1_isWord 16 = .ok (.isub, 1) := by decide +kernel
theorem dX1_isWord_17 : decode cX1_isWord 17 = .ok (.aload_n 1, 1) := by decide +kernel
theorem dX1_isWord_18 : decode cX1_isWord 18 = .ok (.invokevirtual 117, 3) := by decide +kernel
theorem dX1_isWord_21 : decode cX1_isWord 21 = .ok (.if_icmp .eq 5, 3) := by decide +kernel
theorem dX1_isWord_24 : decode cX1_isWord 24 = .ok (.iconst 0, 1) := by decide +kernel
theorem dX1_isWord_25 : decode cX1_isWord 25 = .ok (.ireturn, 1) := by decide +kernel
theorem dX1_isWord_26 : decode cX1_isWord 26 = .ok (.iconst 0, 1) := by decide +kernel
theorem dX1_isWord_27 : decode cX1_isWord 27 = .ok (.istore_n 2, 1) := by decide +kernel
theorem dX1_isWord_28 : decode cX1_isWord 28 = .ok (.iload_n 2, 1) := by decide +kernel
theorem dX1_isWord_29 : decode cX1_isWord 29 = .ok (.aload_n 1, 1) := by decide +kernel
theorem dX1_isWord_30 : decode cX1_isWord 30 = .ok (.invokevirtual 117, 3) := by decide +kernel
theorem dX1_isWord_33 : decode cX1_isWord 33 = .ok (.if_icmp .ge 30, 3) := by decide +kernel
theorem dX1_isWord_36 : decode cX1_isWord 36 = .ok (.aload_n 0, 1) := by decide +kernel
theorem dX1_isWord_37 : decode cX1_isWord 37 = .ok (.getfield 9, 3) := by decide +kernel
theorem dX1_isWord_40 : decode cX1_isWord 40 = .ok (.aload_n 0, 1) := by decide +kernel
theorem dX1_isWord_41 : decode cX1_isWord 41 = .ok (.getfield 26, 3) := by decide +kernel
theorem dX1_isWord_44 : decode cX1_isWord 44 = .ok (.iload_n 2, 1) := by decide +kernel
theorem dX1_isWord_45 : decode cX1_isWord 45 = .ok (.iadd, 1) := by decide +kernel
theorem dX1_isWord_46 : decode cX1_isWord 46 = .ok (.iaload, 1) := by decide +kernel
theorem dX1_isWord_47 : decode cX1_isWord 47 = .ok (.aload_n 1, 1) := by decide +kernel
theorem dX1_isWord_48 : decode cX1_isWord 48 = .ok (.iload_n 2, 1) := by decide +kernel
theorem dX1_isWord_49 : decode cX1_isWord 49 = .ok (.invokevirtual 122, 3) := by decide +kernel
theorem dX1_isWord_52 : decode cX1_isWord 52 = .ok (.if_icmp .eq 5, 3) := by decide +kernel
theorem dX1_isWord_55 : decode cX1_isWord 55 = .ok (.iconst 0, 1) := by decide +kernel
theorem dX1_isWord_56 : decode cX1_isWord 56 = .ok (.ireturn, 1) := by decide +kernel
theorem dX1_isWord_57 : decode cX1_isWord 57 = .ok (.iinc 2 1, 3) := by decide +kernel
theorem dX1_isWord_60 : decode cX1_isWord 60 = .ok (.goto (-32), 3) := by decide +kernel
theorem dX1_isWord_63 : decode cX1_isWord 63 = .ok (.iconst 1, 1) := by decide +kernel
theorem dX1_isWord_64 : decode cX1_isWord 64 = .ok (.ireturn, 1) := by decide +kernel
theorem dX1_isNumber_0 : decode cX1_isNumber 0 = .ok (.aload_n 0, 1) := by decide +kernel
theorem dX1_isNumber_1 : decode cX1_isNumber 1 = .ok (.getfield 29, 3) := by decide +kernel
theorem dX1_isNumber_4 : decode cX1_isNumber 4 = .ok (.iconst 2, 1) := by decide +kernel
theorem dX1_isNumber_5 : decode cX1_isNumber 5 = .ok (.if_icmp .ne 23, 3) := by decide +kernel
theorem dX1_isNumber_8 : decode cX1_isNumber 8 = .ok (.aload_n 0, 1) := by decide +kernel
theorem dX1_isNumber_9 : decode cX1_isNumber 9 = .ok (.getfield 67, 3) := by decide +kernel
theorem dX1_isNumber_12 : decode cX1_isNumber 12 = .ok (.iload_n 1, 1) := by decide +kernel
theorem dX1_isNumber_13 : decode cX1_isNumber 13 = .ok (.if_icmp .lt 15, 3) := by decide +kernel
theorem dX1_isNumber_16 : decode cX1_isNumber 16 = .ok (.aload_n 0, 1) := by decide +kernel
theorem dX1_isNumber_17 : decode cX1_isNumber 17 = .ok (.getfield 67, 3) := by decide +kernel
theorem dX1_isNumber_20 : decode cX1_isNumber 20 = .ok (.iload_n 2, 1) := by decide +kernel
theorem dX1_isNumber_21 : decode cX1_isNumber 21 = .ok (.if_icmp .gt 7, 3) := by decide +kernel
theorem dX1_isNumber_24 : decode cX1_isNumber 24 = .ok (.iconst 1, 1) := by decide +kernel
theorem dX1_isNumber_25 : decode cX1_isNumber 25 = .ok (.goto 4, 3) := by decide +kernel
theorem dX1_isNumber_28 : decode cX1_isNumber 28 = .ok (.iconst 0, 1) := by decide +kernel
theorem dX1_isNumber_29 : decode cX1_isNumber 29 = .ok (.ireturn, 1) := by decide +kernel
theorem dX1_advance_0 : decode cX1_advance 0 = .ok (.aload_n 0, 1) := by decide +kernel
theorem dX1_advance_1 : decode cX1_advance 1 = .ok (.aload_n 0, 1) := by decide +kernel
theorem dX1_advance_2 : decode cX1_advance 2 = .ok (.getfield 15, 3) := by decide +kernel
theorem dX1_advance_5 : decode cX1_advance 5 = .ok (.putfield 26, 3) := by decide +kernel
theorem dX1_advance_8 : decode cX1_advance 8 = .ok (.aload_n 0, 1) := by decide +kernel
theorem dX1_advance_9 : decode cX1_advance 9 = .ok (.getfield 26, 3) := by decide +kernel
theorem dX1_advance_12 : decode cX1_advance 12 = .ok (.aload_n 0, 1) := by decide +kernel
theorem dX1_advance_13 : decode cX1_advance 13 = .ok (.getfield 126, 3) := by decide +kernel
theorem dX1_advance_16 : decode cX1_advance 16 = .ok (.if_icmp .ge 30, 3) := by decide +kernel
theorem dX1_advance_19 : decode cX1_advance 19 = .ok (.aload_n 0, 1) := by decide +kernel
theorem dX1_advance_20 : decode cX1_advance 20 = .ok (.getfield 9, 3) := by decide +kernel
theorem dX1_advance_23 : decode cX1_advance 23 = .ok (.aload_n 0, 1) := by decide +kernel
theorem dX1_advance_24 : decode cX1_advance 24 = .ok (.getfield 26, 3) := by decide +kernel
theorem dX1_advance_27 : decode cX1_advance 27 = .ok (.iaload, 1) := by decide +kernel
theorem dX1_advance_28 : decode cX1_advance 28 = .ok (.bipush 32, 2) := by decide +kernel
theorem dX1_advance_30 : decode cX1_advance 30 = .ok (.if_icmp .ne 16, 3) := by decide +kernel
theorem dX1_advance_33 : decode cX1_advance 33 = .ok (.aload_n 0, 1) := by decide +kernel
theorem dX1_advance_34 : decode cX1_advance 34 = .ok (.dup, 1) := by decide +kernel
theorem dX1_advance_35 : decode cX1_advance 35 = .ok (.getfield 26, 3) := by decide +kernel
theorem dX1_advance_38 : decode cX1_advance 38 = .ok (.iconst 1, 1) := by decide +kernel
theorem dX1_advance_39 : decode cX1_advance 39 = .ok (.iadd, 1) := by decide +kernel
theorem dX1_advance_40 : decode cX1_advance 40 = .ok (.putfield 26, 3) := by decide +kernel
theorem dX1_advance_43 : decode cX1_advance 43 = .ok (.goto (-35), 3) := by decide +kernel
theorem dX1_advance_46 : decode cX1_advance 46 = .ok (.aload_n 0, 1) := by decide +kernel
theorem dX1_advance_47 : decode cX1_advance 47 = .ok (.aload_n 0, 1) := by decide +kernel
theorem dX1_advance_48 : decode cX1_advance 48 = .ok (.getfield 26, 3) := by decide +kernel
theorem dX1_advance_51 : decode cX1_advance 51 = .ok (.putfield 15, 3) := by decide +kernel
theorem dX1_advance_54 : decode cX1_advance 54 = .ok (.aload_n 0, 1) := by decide +kernel
theorem dX1_advance_55 : decode cX1_advance 55 = .ok (.getfield 26, 3) := by decide +kernel
theorem dX1_advance_58 : decode cX1_advance 58 = .ok (.aload_n 0, 1) := by decide +kernel
theorem dX1_advance_59 : decode cX1_advance 59 = .ok (.getfield 126, 3) := by decide +kernel
theorem dX1_advance_62 : decode cX1_advance 62 = .ok (.if_icmp .lt 11, 3) := by decide +kernel
theorem dX1_advance_65 : decode cX1_advance 65 = .ok (.aload_n 0, 1) := by decide +kernel
theorem dX1_advance_66 : decode cX1_advance 66 = .ok (.iconst 0, 1) := by decide +kernel
theorem dX1_advance_67 : decode cX1_advance 67 = .ok (.putfield 29, 3) := by decide +kernel
theorem dX1_advance_70 : decode cX1_advance 70 = .ok (.goto 122, 3) := by decide +kernel
theorem dX1_advance_73 : decode cX1_advance 73 = .ok (.aload_n 0, 1) := by decide +kernel
theorem dX1_advance_74 : decode cX1_advance 74 = .ok (.getfield 9, 3) := by decide +kernel
theorem dX1_advance_77 : decode cX1_advance 77 = .ok (.aload_n 0, 1) := by decide +kernel
theorem dX1_advance_78 : decode cX1_advance 78 = .ok (.getfield 26, 3) := by decide +kernel
theorem dX1_advance_81 : decode cX1_advance 81 = .ok (.iaload, 1) := by decide +kernel
theorem dX1_advance_82 : decode cX1_advance 82 = .ok (.invokestatic 128, 3) := by decide +kernel
theorem dX1_advance_85 : decode cX1_advance 85 = .ok (.ifCond .eq 47, 3) := by decide +kernel
theorem dX1_advance_88 : decode cX1_advance 88 = .ok (.aload_n 0, 1) := by decide +kernel
theorem dX1_advance_89 : decode cX1_advance 89 = .ok (.iconst 1, 1) := by decide +kernel
theorem dX1_advance_90 : decode cX1_advance 90 = .ok (.putfield 29, 3) := by decide +kernel
theorem dX1_advance_93 : decode cX1_advance 93 = .ok (.aload_n 0, 1) := by decide +kernel
theorem dX1_advance_94 : decode cX1_advance 94 = .ok (.getfield 15, 3) := by decide +kernel
theorem dX1_advance_97 : decode cX1_advance 97 = .ok (.aload_n 0, 1) := by decide +kernel
theorem dX1_advance_98 : decode cX1_advance 98 = .ok (.getfield 126, 3) := by decide +kernel
theorem dX1_advance_101 : decode cX1_advance 101 = .ok (.if_icmp .ge 91, 3) := by decide +kernel
theorem dX1_advance_104 : decode cX1_advance 104 = .ok (.aload_n 0, 1) := by decide +kernel
theorem dX1_advance_105 : decode cX1_advance 105 = .ok (.getfield 9, 3) := by decide +kernel
theorem dX1_advance_108 : decode cX1_advance 108 = .ok (.aload_n 0, 1) := by decide +kernel
theorem dX1_advance_109 : decode cX1_advance 109 = .ok (.getfield 15, 3) := by decide +kernel
theorem dX1_advance_112 : decode cX1_advance 112 = .ok (.iaload, 1) := by decide +kernel
theorem dX1_advance_113 : decode cX1_advance 113 = .ok (.invokestatic 128, 3) := by decide +kernel
theorem dX1_advance_116 : decode cX1_advance 116 = .ok (.ifCond .eq 76, 3) := by decide +kernel
theorem dX1_advance_119 : decode cX1_advance 119 = .ok (.aload_n 0, 1) := by decide +kernel
theorem dX1_advance_120 : decode cX1_advance 120 = .ok (.dup, 1) := by decide +kernel
theorem dX1_advance_121 : decode cX1_advance 121 = .ok (.getfield 15, 3) := by decide +kernel
theorem dX1_advance_124 : decode cX1_advance 124 = .ok (.iconst 1, 1) := by decide +kernel
theorem dX1_advance_125 : decode cX1_advance 125 = .ok (.iadd, 1) := by decide +kernel
theorem dX1_advance_126 : decode cX1_advance 126 = .ok (.putfield 15, 3) := by decide +kernel
theorem dX1_advance_129 : decode cX1_advance 129 = .ok (.goto (-36), 3) := by decide +kernel
theorem dX1_advance_132 : decode cX1_advance 132 = .ok (.aload_n 0, 1) := by decide +kernel
theorem dX1_advance_133 : decode cX1_advance 133 = .ok (.getfield 9, 3) := by decide +kernel
theorem dX1_advance_136 : decode cX1_advance 136 = .ok (.aload_n 0, 1) := by decide +kernel
theorem dX1_advance_137 : decode cX1_advance 137 = .ok (.getfield 26, 3) := by decide +kernel
theorem dX1_advance_140 : decode cX1_advance 140 = .ok (.iaload, 1) := by decide +kernel
theorem dX1_advance_141 : decode cX1_advance 141 = .ok (.invokestatic 132, 3) := by decide +kernel
theorem dX1_advance_144 : decode cX1_advance 144 = .ok (.ifCond .eq 15, 3) := by decide +kernel
theorem dX1_advance_147 : decode cX1_advance 147 = .ok (.aload_n 0, 1) := by decide +kernel
theorem dX1_advance_148 : decode cX1_advance 148 = .ok (.iconst 2, 1) := by decide +kernel
theorem dX1_advance_149 : decode cX1_advance 149 = .ok (.putfield 29, 3) := by decide +kernel
theorem dX1_advance_152 : decode cX1_advance 152 = .ok (.aload_n 0, 1) := by decide +kernel
theorem dX1_advance_153 : decode cX1_advance 153 = .ok (.invokevirtual 135, 3) := by decide +kernel
theorem dX1_advance_156 : decode cX1_advance 156 = .ok (.goto 36, 3) := by decide +kernel
theorem dX1_advance_159 : decode cX1_advance 159 = .ok (.aload_n 0, 1) := by decide +kernel
theorem dX1_advance_160 : decode cX1_advance 160 = .ok (.aload_n 0, 1) := by decide +kernel
theorem dX1_advance_161 : decode cX1_advance 161 = .ok (.getfield 9, 3) := by decide +kernel
theorem dX1_advance_164 : decode cX1_advance 164 = .ok (.aload_n 0, 1) := by decide +kernel
theorem dX1_advance_165 : decode cX1_advance 165 = .ok (.getfield 26, 3) := by decide +kernel
theorem dX1_advance_168 : decode cX1_advance 168 = .ok (.iaload, 1) := by decide +kernel
theorem dX1_advance_169 : decode cX1_advance 169 = .ok (.bipush 59, 2) := by decide +kernel
theorem dX1_advance_171 : decode cX1_advance 171 = .ok (.if_icmp .ne 7, 3) := by decide +kernel
theorem dX1_advance_174 : decode cX1_advance 174 = .ok (.iconst 3, 1) := by decide +kernel
theorem dX1_advance_175 : decode cX1_advance 175 = .ok (.goto 4, 3) := by decide +kernel
theorem dX1_advance_178 : decode cX1_advance 178 = .ok (.iconst 4, 1) := by decide +kernel
theorem dX1_advance_179 : decode cX1_advance 179 = .ok (.putfield 29, 3) := by decide +kernel
theorem dX1_advance_182 : decode cX1_advance 182 = .ok (.aload_n 0, 1) := by decide +kernel
theorem dX1_advance_183 : decode cX1_advance 183 = .ok (.dup, 1) := by decide +kernel
theorem dX1_advance_184 : decode cX1_advance 184 = .ok (.getfield 15, 3) := by decide +kernel
theorem dX1_advance_187 : decode cX1_advance 187 = .ok (.iconst 1, 1) := by decide +kernel
theorem dX1_advance_188 : decode cX1_advance 188 = .ok (.iadd, 1) := by decide +kernel
theorem dX1_advance_189 : decode cX1_advance 189 = .ok (.putfield 15, 3) := by decide +kernel
theorem dX1_advance_192 : decode cX1_advance 192 = .ok (.return_, 1) := by decide +kernel
theorem dX1_readDigits_0 : decode cX1_readDigits 0 = .ok (.aload_n 0, 1) := by decide +kernel
theorem dX1_readDigits_1 : decode cX1_readDigits 1 = .ok (.iconst 0, 1) := by decide +kernel
theorem dX1_readDigits_2 : decode cX1_readDigits 2 = .ok (.putfield 67, 3) := by decide +kernel
theorem dX1_readDigits_5 : decode cX1_readDigits 5 = .ok (.aload_n 0, 1) := by decide +kernel
theorem dX1_readDigits_6 : decode cX1_readDigits 6 = .ok (.getfield 15, 3) := by decide +kernel
theorem dX1_readDigits_9 : decode cX1_readDigits 9 = .ok (.aload_n 0, 1) := by decide +kernel
theorem dX1_readDigits_10 : decode cX1_readDigits 10 = .ok (.getfield 126, 3) := by decide +kernel
theorem dX1_readDigits_13 : decode cX1_readDigits 13 = .ok (.if_icmp .ge 61, 3) := by decide +kernel
theorem dX1_readDigits_16 : decode cX1_readDigits 16 = .ok (.aload_n 0, 1) := by decide +kernel
theorem dX1_readDigits_17 : decode cX1_readDigits 17 = .ok (.getfield 9, 3) := by decide +kernel
theorem dX1_readDigits_20 : decode cX1_readDigits 20 = .ok (.aload_n 0, 1) := by decide +kernel
theorem dX1_readDigits_21 : decode cX1_readDigits 21 = .ok (.getfield 15, 3) := by decide +kernel
theorem dX1_readDigits_24 : decode cX1_readDigits 24 = .ok (.iaload, 1) := by decide +kernel
theorem dX1_readDigits_25 : decode cX1_readDigits 25 = .ok (.invokestatic 132, 3) := by decide +kernel
theorem dX1_readDigits_28 : decode cX1_readDigits 28 = .ok (.ifCond .eq 46, 3) := by decide +kernel
theorem dX1_readDigits_31 : decode cX1_readDigits 31 = .ok (.aload_n 0, 1) := by decide +kernel
theorem dX1_readDigits_32 : decode cX1_readDigits 32 = .ok (.sipush 10000, 3) := by decide +kernel
theorem dX1_readDigits_35 : decode cX1_readDigits 35 = .ok (.bipush 10, 2) := by decide +kernel
theorem dX1_readDigits_37 : decode cX1_readDigits 37 = .ok (.aload_n 0, 1) := by decide +kernel
theorem dX1_readDigits_38 : decode cX1_readDigits 38 = .ok (.getfield 67, 3) := by decide +kernel
theorem dX1_readDigits_41 : decode cX1_readDigits 41 = .ok (.imul, 1) := by decide +kernel
theorem dX1_readDigits_42 : decode cX1_readDigits 42 = .ok (.aload_n 0, 1) := by decide +kernel
theorem dX1_readDigits_43 : decode cX1_readDigits 43 = .ok (.getfield 9, 3) := by decide +kernel
theorem dX1_readDigits_46 : decode cX1_readDigits 46 = .ok (.aload_n 0, 1) := by decide +kernel
theorem dX1_readDigits_47 : decode cX1_readDigits 47 = .ok (.getfield 15, 3) := by decide +kernel
theorem dX1_readDigits_50 : decode cX1_readDigits 50 = .ok (.iaload, 1) := by decide +kernel
theorem dX1_readDigits_51 : decode cX1_readDigits 51 = .ok (.iadd, 1) := by decide +kernel
theorem dX1_readDigits_52 : decode cX1_readDigits 52 = .ok (.bipush 48, 2) := by decide +kernel
theorem dX1_readDigits_54 : decode cX1_readDigits 54 = .ok (.isub, 1) := by decide +kernel
theorem dX1_readDigits_55 : decode cX1_readDigits 55 = .ok (.invokestatic 138, 3) := by decide +kernel
theorem dX1_readDigits_58 : decode cX1_readDigits 58 = .ok (.putfield 67, 3) := by decide +kernel
theorem dX1_readDigits_61 : decode cX1_readDigits 61 = .ok (.aload_n 0, 1) := by decide +kernel
theorem dX1_readDigits_62 : decode cX1_readDigits 62 = .ok (.dup, 1) := by decide +kernel
theorem dX1_readDigits_63 : decode cX1_readDigits 63 = .ok (.getfield 15, 3) := by decide +kernel
theorem dX1_readDigits_66 : decode cX1_readDigits 66 = .ok (.iconst 1, 1) := by decide +kernel
theorem dX1_readDigits_67 : decode cX1_readDigits 67 = .ok (.iadd, 1) := by decide +kernel
theorem dX1_readDigits_68 : decode cX1_readDigits 68 = .ok (.putfield 15, 3) := by decide +kernel
theorem dX1_readDigits_71 : decode cX1_readDigits 71 = .ok (.goto (-66), 3) := by decide +kernel
theorem dX1_readDigits_74 : decode cX1_readDigits 74 = .ok (.return_, 1) := by decide +kernel
theorem dX1_isLetter_0 : decode cX1_isLetter 0 = .ok (.iload_n 0, 1) := by decide +kernel
theorem dX1_isLetter_1 : decode cX1_isLetter 1 = .ok (.bipush 97, 2) := by decide +kernel
theorem dX1_isLetter_3 : decode cX1_isLetter 3 = .ok (.if_icmp .lt 13, 3) := by decide +kernel
theorem dX1_isLetter_6 : decode cX1_isLetter 6 = .ok (.iload_n 0, 1) := by decide +kernel
theorem dX1_isLetter_7 : decode cX1_isLetter 7 = .ok (.bipush 122, 2) := by decide +kernel
theorem dX1_isLetter_9 : decode cX1_isLetter 9 = .ok (.if_icmp .gt 7, 3) := by decide +kernel
theorem dX1_isLetter_12 : decode cX1_isLetter 12 = .ok (.iconst 1, 1) := by decide +kernel
theorem dX1_isLetter_13 : decode cX1_isLetter 13 = .ok (.goto 4, 3) := by decide +kernel
theorem dX1_isLetter_16 : decode cX1_isLetter 16 = .ok (.iconst 0, 1) := by decide +kernel
theorem dX1_isLetter_17 : decode cX1_isLetter 17 = .ok (.ireturn, 1) := by decide +kernel
theorem dX1_isDigit_0 : decode cX1_isDigit 0 = .ok (.iload_n 0, 1) := by decide +kernel
theorem dX1_isDigit_1 : decode cX1_isDigit 1 = .ok (.bipush 48, 2) := by decide +kernel
theorem dX1_isDigit_3 : decode cX1_isDigit 3 = .ok (.if_icmp .lt 13, 3) := by decide +kernel
theorem dX1_isDigit_6 : decode cX1_isDigit 6 = .ok (.iload_n 0, 1) := by decide +kernel
theorem dX1_isDigit_7 : decode cX1_isDigit 7 = .ok (.bipush 57, 2) := by decide +kernel
theorem dX1_isDigit_9 : decode cX1_isDigit 9 = .ok (.if_icmp .gt 7, 3) := by decide +kernel
theorem dX1_isDigit_12 : decode cX1_isDigit 12 = .ok (.iconst 1, 1) := by decide +kernel
theorem dX1_isDigit_13 : decode cX1_isDigit 13 = .ok (.goto 4, 3) := by decide +kernel
theorem dX1_isDigit_16 : decode cX1_isDigit 16 = .ok (.iconst 0, 1) := by decide +kernel
theorem dX1_isDigit_17 : decode cX1_isDigit 17 = .ok (.ireturn, 1) := by decide +kernel
theorem dX2_init_0 : decode cX2_init 0 = .ok (.aload_n 0, 1) := by decide +kernel
theorem dX2_init_1 : decode cX2_init 1 = .ok (.invokespecial 3, 3) := by decide +kernel
theorem dX2_init_4 : decode cX2_init 4 = .ok (.aload_n 0, 1) := by decide +kernel
theorem dX2_init_5 : decode cX2_init 5 = .ok (.bipush 48, 2) := by decide +kernel
theorem dX2_init_7 : decode cX2_init 7 = .ok (.newarray .int, 2) := by decide +kernel
theorem dX2_init_9 : decode cX2_init 9 = .ok (.putfield 9, 3) := by decide +kernel
theorem dX2_init_12 : decode cX2_init 12 = .ok (.aload_n 0, 1) := by decide +kernel
theorem dX2_init_13 : decode cX2_init 13 = .ok (.bipush 48, 2) := by decide +kernel
theorem dX2_init_15 : decode cX2_init 15 = .ok (.newarray .int, 2) := by decide +kernel
theorem dX2_init_17 : decode cX2_init 17 = .ok (.putfield 15, 3) := by decide +kernel
theorem dX2_init_20 : decode cX2_init 20 = .ok (.aload_n 0, 1) := by decide +kernel
theorem dX2_init_21 : decode cX2_init 21 = .ok (.bipush 6, 2) := by decide +kernel
theorem dX2_init_23 : decode cX2_init 23 = .ok (.newarray .int, 2) := by decide +kernel
theorem dX2_init_25 : decode cX2_init 25 = .ok (.putfield 18, 3) := by decide +kernel
theorem dX2_init_28 : decode cX2_init 28 = .ok (.aload_n 0, 1) := by decide +kernel
theorem dX2_init_29 : decode cX2_init 29 = .ok (.bipush 6, 2) := by decide +kernel
theorem dX2_init_31 : decode cX2_init 31 = .ok (.newarray .int, 2) := by decide +kernel
theorem dX2_init_33 : decode cX2_init 33 = .ok (.putfield 21, 3) := by decide +kernel
theorem dX2_init_36 : decode cX2_init 36 = .ok (.aload_n 0, 1) := by decide +kernel
theorem dX2_init_37 : decode cX2_init 37 = .ok (.bipush 6, 2) := by decide +kernel
theorem dX2_init_39 : decode cX2_init 39 = .ok (.newarray .int, 2) := by decide +kernel
theorem dX2_init_41 : decode cX2_init 41 = .ok (.putfield 24, 3) := by decide +kernel
theorem dX2_init_44 : decode cX2_init 44 = .ok (.aload_n 0, 1) := by decide +kernel
theorem dX2_init_45 : decode cX2_init 45 = .ok (.bipush 6, 2) := by decide +kernel
theorem dX2_init_47 : decode cX2_init 47 = .ok (.newarray .int, 2) := by decide +kernel
theorem dX2_init_49 : decode cX2_init 49 = .ok (.putfield 27, 3) := by decide +kernel
theorem dX2_init_52 : decode cX2_init 52 = .ok (.aload_n 0, 1) := by decide +kernel
theorem dX2_init_53 : decode cX2_init 53 = .ok (.iconst 2, 1) := by decide +kernel
theorem dX2_init_54 : decode cX2_init 54 = .ok (.putfield 30, 3) := by decide +kernel
theorem dX2_init_57 : decode cX2_init 57 = .ok (.return_, 1) := by decide +kernel
theorem dX2_become_0 : decode cX2_become 0 = .ok (.aload_n 1, 1) := by decide +kernel
theorem dX2_become_1 : decode cX2_become 1 = .ok (.getfield 9, 3) := by decide +kernel
theorem dX2_become_4 : decode cX2_become 4 = .ok (.iconst 0, 1) := by decide +kernel
theorem dX2_become_5 : decode cX2_become 5 = .ok (.aload_n 0, 1) := by decide +kernel
theorem dX2_become_6 : decode cX2_become 6 = .ok (.getfield 9, 3) := by decide +kernel
theorem dX2_become_9 : decode cX2_become 9 = .ok (.iconst 0, 1) := by decide +kernel
theorem dX2_become_10 : decode cX2_become 10 = .ok (.bipush 48, 2) := by decide +kernel
theorem dX2_become_12 : decode cX2_become 12 = .ok (.invokestatic 34, 3) := by decide +kernel
theorem dX2_become_15 : decode cX2_become 15 = .ok (.aload_n 1, 1) := by decide +kernel
theorem dX2_become_16 : decode cX2_become 16 = .ok (.getfield 15, 3) := by decide +kernel
theorem dX2_become_19 : decode cX2_become 19 = .ok (.iconst 0, 1) := by decide +kernel
theorem dX2_become_20 : decode cX2_become 20 = .ok (.aload_n 0, 1) := by decide +kernel
theorem dX2_become_21 : decode cX2_become 21 = .ok (.getfield 15, 3) := by decide +kernel
theorem dX2_become_24 : decode cX2_become 24 = .ok (.iconst 0, 1) := by decide +kernel
theorem dX2_become_25 : decode cX2_become 25 = .ok (.bipush 48, 2) := by decide +kernel
theorem dX2_become_27 : decode cX2_become 27 = .ok (.invokestatic 34, 3) := by decide +kernel
theorem dX2_become_30 : decode cX2_become 30 = .ok (.aload_n 1, 1) := by decide +kernel
theorem dX2_become_31 : decode cX2_become 31 = .ok (.getfield 18, 3) := by decide +kernel
theorem dX2_become_34 : decode cX2_become 34 = .ok (.iconst 0, 1) := by decide +kernel
theorem dX2_become_35 : decode cX2_become 35 = .ok (.aload_n 0, 1) := by decide +kernel
theorem dX2_become_36 : decode cX2_become 36 = .ok (.getfield 18, 3) := by decide +kernel
theorem dX2_become_39 : decode cX2_become 39 = .ok (.iconst 0, 1) := by decide +kernel
theorem dX2_become_40 : decode cX2_become 40 = .ok (.bipush 6, 2) := by decide +kernel
theorem dX2_become_42 : decode cX2_become 42 = .ok (.invokestatic 34, 3) := by decide +kernel
theorem dX2_become_45 : decode cX2_become 45 = .ok (.aload_n 1, 1) := by decide +kernel
theorem dX2_become_46 : decode cX2_become 46 = .ok (.getfield 21, 3) := by decide +kernel
theorem dX2_become_49 : decode cX2_become 49 = .ok (.iconst 0, 1) := by decide +kernel
theorem dX2_become_50 : decode cX2_become 50 = .ok (.aload_n 0, 1) := by decide +kernel
theorem dX2_become_51 : decode cX2_become 51 = .ok (.getfield 21, 3) := by decide +kernel
theorem dX2_become_54 : decode cX2_become 54 = .ok (.iconst 0, 1) := by decide +kernel
theorem dX2_become_55 : decode cX2_become 55 = .ok (.bipush 6, 2) := by decide +kernel
theorem dX2_become_57 : decode cX2_become 57 = .ok (.invokestatic 34, 3) := by decide +kernel
theorem dX2_become_60 : decode cX2_become 60 = .ok (.aload_n 1, 1) := by decide +kernel
theorem dX2_become_61 : decode cX2_become 61 = .ok (.getfield 24, 3) := by decide +kernel
theorem dX2_become_64 : decode cX2_become 64 = .ok (.iconst 0, 1) := by decide +kernel
theorem dX2_become_65 : decode cX2_become 65 = .ok (.aload_n 0, 1) := by decide +kernel
theorem dX2_become_66 : decode cX2_become 66 = .ok (.getfield 24, 3) := by decide +kernel
theorem dX2_become_69 : decode cX2_become 69 = .ok (.iconst 0, 1) := by decide +kernel
theorem dX2_become_70 : decode cX2_become 70 = .ok (.bipush 6, 2) := by decide +kernel
theorem dX2_become_72 : decode cX2_become 72 = .ok (.invokestatic 34, 3) := by decide +kernel
theorem dX2_become_75 : decode cX2_become 75 = .ok (.aload_n 1, 1) := by decide +kernel
theorem dX2_become_76 : decode cX2_become 76 = .ok (.getfield 27, 3) := by decide +kernel
theorem dX2_become_79 : decode cX2_become 79 = .ok (.iconst 0, 1) := by decide +kernel
theorem dX2_become_80 : decode cX2_become 80 = .ok (.aload_n 0, 1) := by decide +kernel
theorem dX2_become_81 : decode cX2_become 81 = .ok (.getfield 27, 3) := by decide +kernel
theorem dX2_become_84 : decode cX2_become 84 = .ok (.iconst 0, 1) := by decide +kernel
theorem dX2_become_85 : decode cX2_become 85 = .ok (.bipush 6, 2) := by decide +kernel
theorem dX2_become_87 : decode cX2_become 87 = .ok (.invokestatic 34, 3) := by decide +kernel
theorem dX2_become_90 : decode cX2_become 90 = .ok (.aload_n 0, 1) := by decide +kernel
theorem dX2_become_91 : decode cX2_become 91 = .ok (.aload_n 1, 1) := by decide +kernel
theorem dX2_become_92 : decode cX2_become 92 = .ok (.getfield 40, 3) := by decide +kernel
theorem dX2_become_95 : decode cX2_become 95 = .ok (.putfield 40, 3) := by decide +kernel
theorem dX2_become_98 : decode cX2_become 98 = .ok (.aload_n 0, 1) := by decide +kernel
theorem dX2_become_99 : decode cX2_become 99 = .ok (.aload_n 1, 1) := by decide +kernel
theorem dX2_become_100 : decode cX2_become 100 = .ok (.getfield 43, 3) := by decide +kernel
theorem dX2_become_103 : decode cX2_become 103 = .ok (.putfield 43, 3) := by decide +kernel
theorem dX2_become_106 : decode cX2_become 106 = .ok (.aload_n 0, 1) := by decide +kernel
theorem dX2_become_107 : decode cX2_become 107 = .ok (.aload_n 1, 1) := by decide +kernel
theorem dX2_become_108 : decode cX2_become 108 = .ok (.getfield 30, 3) := by decide +kernel
theorem dX2_become_111 : decode cX2_become 111 = .ok (.putfield 30, 3) := by decide +kernel
theorem dX2_become_114 : decode cX2_become 114 = .ok (.aload_n 0, 1) := by decide +kernel
theorem dX2_become_115 : decode cX2_become 115 = .ok (.aload_n 1, 1) := by decide +kernel
theorem dX2_become_116 : decode cX2_become 116 = .ok (.getfield 46, 3) := by decide +kernel
theorem dX2_become_119 : decode cX2_become 119 = .ok (.putfield 46, 3) := by decide +kernel
theorem dX2_become_122 : decode cX2_become 122 = .ok (.return_, 1) := by decide +kernel
theorem dX2_paint_0 : decode cX2_paint 0 = .ok (.iload_n 1, 1) := by decide +kernel
theorem dX2_paint_1 : decode cX2_paint 1 = .ok (.ifCond .ne 10, 3) := by decide +kernel
theorem dX2_paint_4 : decode cX2_paint 4 = .ok (.aload_n 0, 1) := by decide +kernel
theorem dX2_paint_5 : decode cX2_paint 5 = .ok (.getfield 9, 3) := by decide +kernel
theorem dX2_paint_8 : decode cX2_paint 8 = .ok (.goto 7, 3) := by decide +kernel
theorem dX2_paint_11 : decode cX2_paint 11 = .ok (.aload_n 0, 1) := by decide +kernel
theorem dX2_paint_12 : decode cX2_paint 12 = .ok (.getfield 15, 3) := by decide +kernel
theorem dX2_paint_15 : decode cX2_paint 15 = .ok (.astore 4, 2) := by decide +kernel
theorem dX2_paint_17 : decode cX2_paint 17 = .ok (.aload 4, 2) := by decide +kernel
theorem dX2_paint_19 : decode cX2_paint 19 = .ok (.iload_n 2, 1) := by decide +kernel
theorem dX2_paint_20 : decode cX2_paint 20 = .ok (.iaload, 1) := by decide +kernel
theorem dX2_paint_21 : decode cX2_paint 21 = .ok (.istore 5, 2) := by decide +kernel
theorem dX2_paint_23 : decode cX2_paint 23 = .ok (.aload 4, 2) := by decide +kernel
theorem dX2_paint_25 : decode cX2_paint 25 = .ok (.iload_n 2, 1) := by decide +kernel
theorem dX2_paint_26 : decode cX2_paint 26 = .ok (.iload_n 3, 1) := by decide +kernel
theorem dX2_paint_27 : decode cX2_paint 27 = .ok (.iastore, 1) := by decide +kernel
theorem dX2_paint_28 : decode cX2_paint 28 = .ok (.lconst 1, 1) := by decide +kernel
theorem dX2_paint_29 : decode cX2_paint 29 = .ok (.iload_n 2, 1) := by decide +kernel
theorem dX2_paint_30 : decode cX2_paint 30 = .ok (.lshl, 1) := by decide +kernel
theorem dX2_paint_31 : decode cX2_paint 31 = .ok (.lstore 6, 2) := by decide +kernel
theorem dX2_paint_33 : decode cX2_paint 33 = .ok (.aload_n 0, 1) := by decide +kernel
theorem dX2_paint_34 : decode cX2_paint 34 = .ok (.aload_n 0, 1) := by decide +kernel
theorem dX2_paint_35 : decode cX2_paint 35 = .ok (.getfield 9, 3) := by decide +kernel
theorem dX2_paint_38 : decode cX2_paint 38 = .ok (.iload_n 2, 1) := by decide +kernel
theorem dX2_paint_39 : decode cX2_paint 39 = .ok (.iaload, 1) := by decide +kernel
theorem dX2_paint_40 : decode cX2_paint 40 = .ok (.aload_n 0, 1) := by decide +kernel
theorem dX2_paint_41 : decode cX2_paint 41 = .ok (.getfield 15, 3) := by decide +kernel
theorem dX2_paint_44 : decode cX2_paint 44 = .ok (.iload_n 2, 1) := by decide +kernel
theorem dX2_paint_45 : decode cX2_paint 45 = .ok (.iaload, 1) := by decide +kernel
theorem dX2_paint_46 : decode cX2_paint 46 = .ok (.if_icmp .ne 17, 3) := by decide +kernel
theorem dX2_paint_49 : decode cX2_paint 49 = .ok (.aload_n 0, 1) := by decide +kernel
theorem dX2_paint_50 : decode cX2_paint 50 = .ok (.getfield 46, 3) := by decide +kernel
theorem dX2_paint_53 : decode cX2_paint 53 = .ok (.lload 6, 2) := by decide +kernel
theorem dX2_paint_55 : decode cX2_paint 55 = .ok (.ldc2_w 50, 3) := by decide +kernel
theorem dX2_paint_58 : decode cX2_paint 58 = .ok (.lxor, 1) := by decide +kernel
theorem dX2_paint_59 : decode cX2_paint 59 = .ok (.land, 1) := by decide +kernel
theorem dX2_paint_60 : decode cX2_paint 60 = .ok (.goto 10, 3) := by decide +kernel
theorem dX2_paint_63 : decode cX2_paint 63 = .ok (.aload_n 0, 1) := by decide +kernel
theorem dX2_paint_64 : decode cX2_paint 64 = .ok (.getfield 46, 3) := by decide +kernel
theorem dX2_paint_67 : decode cX2_paint 67 = .ok (.lload 6, 2) := by decide +kernel
theorem dX2_paint_69 : decode cX2_paint 69 = .ok (.lor, 1) := by decide +kernel
theorem dX2_paint_70 : decode cX2_paint 70 = .ok (.putfield 46, 3) := by decide +kernel
theorem dX2_paint_73 : decode cX2_paint 73 = .ok (.iload 5, 2) := by decide +kernel
theorem dX2_paint_75 : decode cX2_paint 75 = .ok (.ireturn, 1) := by decide +kernel
theorem dX2_addMender_0 : decode cX2_addMender 0 = .ok (.aload_n 0, 1) := by decide +kernel
theorem dX2_addMender_1 : decode cX2_addMender 1 = .ok (.getfield 40, 3) := by decide +kernel
theorem dX2_addMender_4 : decode cX2_addMender 4 = .ok (.istore 4, 2) := by decide +kernel
theorem dX2_addMender_6 : decode cX2_addMender 6 = .ok (.aload_n 0, 1) := by decide +kernel
theorem dX2_addMender_7 : decode cX2_addMender 7 = .ok (.getfield 18, 3) := by decide +kernel
theorem dX2_addMender_10 : decode cX2_addMender 10 = .ok (.iload 4, 2) := by decide +kernel
theorem dX2_addMender_12 : decode cX2_addMender 12 = .ok (.iload_n 1, 1) := by decide +kernel
theorem dX2_addMender_13 : decode cX2_addMender 13 = .ok (.iastore, 1) := by decide +kernel
theorem dX2_addMender_14 : decode cX2_addMender 14 = .ok (.aload_n 0, 1) := by decide +kernel
theorem dX2_addMender_15 : decode cX2_addMender 15 = .ok (.getfield 21, 3) := by decide +kernel
theorem dX2_addMender_18 : decode cX2_addMender 18 = .ok (.iload 4, 2) := by decide +kernel
theorem dX2_addMender_20 : decode cX2_addMender 20 = .ok (.iload_n 2, 1) := by decide +kernel
theorem dX2_addMender_21 : decode cX2_addMender 21 = .ok (.iastore, 1) := by decide +kernel
theorem dX2_addMender_22 : decode cX2_addMender 22 = .ok (.aload_n 0, 1) := by decide +kernel
theorem dX2_addMender_23 : decode cX2_addMender 23 = .ok (.getfield 24, 3) := by decide +kernel
theorem dX2_addMender_26 : decode cX2_addMender 26 = .ok (.iload 4, 2) := by decide +kernel
theorem dX2_addMender_28 : decode cX2_addMender 28 = .ok (.iload_n 3, 1) := by decide +kernel
theorem dX2_addMender_29 : decode cX2_addMender 29 = .ok (.iastore, 1) := by decide +kernel
theorem dX2_addMender_30 : decode cX2_addMender 30 = .ok (.aload_n 0, 1) := by decide +kernel
theorem dX2_addMender_31 : decode cX2_addMender 31 = .ok (.getfield 27, 3) := by decide +kernel
theorem dX2_addMender_34 : decode cX2_addMender 34 = .ok (.iload 4, 2) := by decide +kernel
theorem dX2_addMender_36 : decode cX2_addMender 36 = .ok (.iconst 0, 1) := by decide +kernel
theorem dX2_addMender_37 : decode cX2_addMender 37 = .ok (.iastore, 1) := by decide +kernel
theorem dX2_addMender_38 : decode cX2_addMender 38 = .ok (.aload_n 0, 1) := by decide +kernel
theorem dX2_addMender_39 : decode cX2_addMender 39 = .ok (.dup, 1) := by decide +kernel
theorem dX2_addMender_40 : decode cX2_addMender 40 = .ok (.getfield 40, 3) := by decide +kernel
theorem dX2_addMender_43 : decode cX2_addMender 43 = .ok (.iconst 1, 1) := by decide +kernel
theorem dX2_addMender_44 : decode cX2_addMender 44 = .ok (.iadd, 1) := by decide +kernel
theorem dX2_addMender_45 : decode cX2_addMender 45 = .ok (.putfield 40, 3) := by decide +kernel
theorem dX2_addMender_48 : decode cX2_addMender 48 = .ok (.iload 4, 2) := by decide +kernel
theorem dX2_addMender_50 : decode cX2_addMender 50 = .ok (.ireturn, 1) := by decide +kernel
theorem dX2_isWrong_0 : decode cX2_isWrong 0 = .ok (.aload_n 0, 1) := by decide +kernel
theorem dX2_isWrong_1 : decode cX2_isWrong 1 = .ok (.getfield 46, 3) := by decide +kernel
theorem dX2_isWrong_4 : decode cX2_isWrong 4 = .ok (.iload_n 1, 1) := by decide +kernel
theorem dX2_isWrong_5 : decode cX2_isWrong 5 = .ok (.invokestatic 52, 3) := by decide +kernel
theorem dX2_isWrong_8 : decode cX2_isWrong 8 = .ok (.ireturn, 1) := by decide +kernel
theorem dX2_howManyWrong_0 : decode cX2_howManyWrong 0 = .ok (.aload_n 0, 1) := by decide +kernel
theorem dX2_howManyWrong_1 : decode cX2_howManyWrong 1 = .ok (.getfield 46, 3) := by decide +kernel
theorem dX2_howManyWrong_4 : decode cX2_howManyWrong 4 = .ok (.invokestatic 56, 3) := by decide +kernel
theorem dX2_howManyWrong_7 : decode cX2_howManyWrong 7 = .ok (.ireturn, 1) := by decide +kernel
theorem dX2_mendersAt_0 : decode cX2_mendersAt 0 = .ok (.iconst 0, 1) := by decide +kernel
theorem dX2_mendersAt_1 : decode cX2_mendersAt 1 = .ok (.istore_n 2, 1) := by decide +kernel
theorem dX2_mendersAt_2 : decode cX2_mendersAt 2 = .ok (.iconst 0, 1) := by decide +kernel
theorem dX2_mendersAt_3 : decode cX2_mendersAt 3 = .ok (.istore_n 3, 1) := by decide +kernel
theorem dX2_mendersAt_4 : decode cX2_mendersAt 4 = .ok (.iload_n 3, 1) := by decide +kernel
theorem dX2_mendersAt_5 : decode cX2_mendersAt 5 = .ok (.aload_n 0, 1) := by decide +kernel
theorem dX2_mendersAt_6 : decode cX2_mendersAt 6 = .ok (.getfield 40, 3) := by decide +kernel
theorem dX2_mendersAt_9 : decode cX2_mendersAt 9 = .ok (.if_icmp .ge 25, 3) := by decide +kernel
theorem dX2_mendersAt_12 : decode cX2_mendersAt 12 = .ok (.aload_n 0, 1) := by decide +kernel
theorem dX2_mendersAt_13 : decode cX2_mendersAt 13 = .ok (.getfield 21, 3) := by decide +kernel
theorem dX2_mendersAt_16 : decode cX2_mendersAt 16 = .ok (.iload_n 3, 1) := by decide +kernel
theorem dX2_mendersAt_17 : decode cX2_mendersAt 17 = .ok (.iaload, 1) := by decide +kernel
theorem dX2_mendersAt_18 : decode cX2_mendersAt 18 = .ok (.iload_n 1, 1) := by decide +kernel
theorem dX2_mendersAt_19 : decode cX2_mendersAt 19 = .ok (.if_icmp .ne 9, 3) := by decide +kernel
theorem dX2_mendersAt_22 : decode cX2_mendersAt 22 = .ok (.iload_n 2, 1) := by decide +kernel
theorem dX2_mendersAt_23 : decode cX2_mendersAt 23 = .ok (.iconst 1, 1) := by decide +kernel
theorem dX2_mendersAt_24 : decode cX2_mendersAt 24 = .ok (.iload_n 3, 1) := by decide +kernel
theorem dX2_mendersAt_25 : decode cX2_mendersAt 25 = .ok (.ishl, 1) := by decide +kernel
theorem dX2_mendersAt_26 : decode cX2_mendersAt 26 = .ok (.ior, 1) := by decide +kernel
theorem dX2_mendersAt_27 : decode cX2_mendersAt 27 = .ok (.istore_n 2, 1) := by decide +kernel
theorem dX2_mendersAt_28 : decode cX2_mendersAt 28 = .ok (.iinc 3 1, 3) := by decide +kernel
theorem dX2_mendersAt_31 : decode cX2_mendersAt 31 = .ok (.goto (-27), 3) := by decide +kernel
theorem dX2_mendersAt_34 : decode cX2_mendersAt 34 = .ok (.iload_n 2, 1) := by decide +kernel
theorem dX2_mendersAt_35 : decode cX2_mendersAt 35 = .ok (.ireturn, 1) := by decide +kernel
theorem dX2_landOf_0 : decode cX2_landOf 0 = .ok (.lconst 0, 1) := by decide +kernel
theorem dX2_landOf_1 : decode cX2_landOf 1 = .ok (.lstore_n 2, 1) := by decide +kernel
theorem dX2_landOf_2 : decode cX2_landOf 2 = .ok (.iconst 0, 1) := by decide +kernel
theorem dX2_landOf_3 : decode cX2_landOf 3 = .ok (.istore 4, 2) := by decide +kernel
theorem dX2_landOf_5 : decode cX2_landOf 5 = .ok (.iload 4, 2) := by decide +kernel
theorem dX2_landOf_7 : decode cX2_landOf 7 = .ok (.bipush 48, 2) := by decide +kernel
theorem dX2_landOf_9 : decode cX2_landOf 9 = .ok (.if_icmp .ge 27, 3) := by decide +kernel
theorem dX2_landOf_12 : decode cX2_landOf 12 = .ok (.aload_n 0, 1) := by decide +kernel
theorem dX2_landOf_13 : decode cX2_landOf 13 = .ok (.getfield 9, 3) := by decide +kernel
theorem dX2_landOf_16 : decode cX2_landOf 16 = .ok (.iload 4, 2) := by decide +kernel
theorem dX2_landOf_18 : decode cX2_landOf 18 = .ok (.iaload, 1) := by decide +kernel
theorem dX2_landOf_19 : decode cX2_landOf 19 = .ok (.iload_n 1, 1) := by decide +kernel
theorem dX2_landOf_20 : decode cX2_landOf 20 = .ok (.if_icmp .ne 10, 3) := by decide +kernel
theorem dX2_landOf_23 : decode cX2_landOf 23 = .ok (.lload_n 2, 1) := by decide +kernel
theorem dX2_landOf_24 : decode cX2_landOf 24 = .ok (.lconst 1, 1) := by decide +kernel
theorem dX2_landOf_25 : decode cX2_landOf 25 = .ok (.iload 4, 2) := by decide +kernel
theorem dX2_landOf_27 : decode cX2_landOf 27 = .ok (.lshl, 1) := by decide +kernel
theorem dX2_landOf_28 : decode cX2_landOf 28 = .ok (.lor, 1) := by decide +kernel
theorem dX2_landOf_29 : decode cX2_landOf 29 = .ok (.lstore_n 2, 1) := by decide +kernel
theorem dX2_landOf_30 : decode cX2_landOf 30 = .ok (.iinc 4 1, 3) := by decide +kernel
theorem dX2_landOf_33 : decode cX2_landOf 33 = .ok (.goto (-28), 3) := by decide +kernel
theorem dX2_landOf_36 : decode cX2_landOf 36 = .ok (.lload_n 2, 1) := by decide +kernel
theorem dX2_landOf_37 : decode cX2_landOf 37 = .ok (.lreturn, 1) := by decide +kernel
theorem dX2_together_0 : decode cX2_together 0 = .ok (.iconst 0, 1) := by decide +kernel
theorem dX2_together_1 : decode cX2_together 1 = .ok (.istore_n 2, 1) := by decide +kernel
theorem dX2_together_2 : decode cX2_together 2 = .ok (.iconst 0, 1) := by decide +kernel
theorem dX2_together_3 : decode cX2_together 3 = .ok (.istore_n 3, 1) := by decide +kernel
theorem dX2_together_4 : decode cX2_together 4 = .ok (.iload_n 3, 1) := by decide +kernel
theorem dX2_together_5 : decode cX2_together 5 = .ok (.aload_n 0, 1) := by decide +kernel
theorem dX2_together_6 : decode cX2_together 6 = .ok (.getfield 40, 3) := by decide +kernel
theorem dX2_together_9 : decode cX2_together 9 = .ok (.if_icmp .ge 15, 3) := by decide +kernel
theorem dX2_together_12 : decode cX2_together 12 = .ok (.iload_n 2, 1) := by decide +kernel
theorem dX2_together_13 : decode cX2_together 13 = .ok (.aload_n 1, 1) := by decide +kernel
theorem dX2_together_14 : decode cX2_together 14 = .ok (.iload_n 3, 1) := by decide +kernel
theorem dX2_together_15 : decode cX2_together 15 = .ok (.iaload, 1) := by decide +kernel
theorem dX2_together_16 : decode cX2_together 16 = .ok (.iadd, 1) := by decide +kernel
theorem dX2_together_17 : decode cX2_together 17 = .ok (.istore_n 2, 1) := by decide +kernel
theorem dX2_together_18 : decode cX2_together 18 = .ok (.iinc 3 1, 3) := by decide +kernel
theorem dX2_together_21 : decode cX2_together 21 = .ok (.goto (-17), 3) := by decide +kernel
theorem dX2_together_24 : decode cX2_together 24 = .ok (.iload_n 2, 1) := by decide +kernel
theorem dX2_together_25 : decode cX2_together 25 = .ok (.ireturn, 1) := by decide +kernel
theorem dX2_costOf_0 : decode cX2_costOf 0 = .ok (.iconst 3, 1) := by decide +kernel
theorem dX2_costOf_1 : decode cX2_costOf 1 = .ok (.aload_n 0, 1) := by decide +kernel
theorem dX2_costOf_2 : decode cX2_costOf 2 = .ok (.getfield 9, 3) := by decide +kernel
theorem dX2_costOf_5 : decode cX2_costOf 5 = .ok (.iload_n 2, 1) := by decide +kernel
theorem dX2_costOf_6 : decode cX2_costOf 6 = .ok (.iaload, 1) := by decide +kernel
theorem dX2_costOf_7 : decode cX2_costOf 7 = .ok (.aload_n 0, 1) := by decide +kernel
theorem dX2_costOf_8 : decode cX2_costOf 8 = .ok (.getfield 15, 3) := by decide +kernel
theorem dX2_costOf_11 : decode cX2_costOf 11 = .ok (.iload_n 2, 1) := by decide +kernel
theorem dX2_costOf_12 : decode cX2_costOf 12 = .ok (.iaload, 1) := by decide +kernel
theorem dX2_costOf_13 : decode cX2_costOf 13 = .ok (.isub, 1) := by decide +kernel
theorem dX2_costOf_14 : decode cX2_costOf 14 = .ok (.invokestatic 62, 3) := by decide +kernel
theorem dX2_costOf_17 : decode cX2_costOf 17 = .ok (.imul, 1) := by decide +kernel
theorem dX2_costOf_18 : decode cX2_costOf 18 = .ok (.iconst 2, 1) := by decide +kernel
theorem dX2_costOf_19 : decode cX2_costOf 19 = .ok (.iadd, 1) := by decide +kernel
theorem dX2_costOf_20 : decode cX2_costOf 20 = .ok (.istore_n 3, 1) := by decide +kernel
theorem dX2_costOf_21 : decode cX2_costOf 21 = .ok (.aload_n 0, 1) := by decide +kernel
theorem dX2_costOf_22 : decode cX2_costOf 22 = .ok (.getfield 46, 3) := by decide +kernel
theorem dX2_costOf_25 : decode cX2_costOf 25 = .ok (.lconst 1, 1) := by decide +kernel
theorem dX2_costOf_26 : decode cX2_costOf 26 = .ok (.iload_n 2, 1) := by decide +kernel
theorem dX2_costOf_27 : decode cX2_costOf 27 = .ok (.lshl, 1) := by decide +kernel
theorem dX2_costOf_28 : decode cX2_costOf 28 = .ok (.invokestatic 68, 3) := by decide +kernel
theorem dX2_costOf_31 : decode cX2_costOf 31 = .ok (.land, 1) := by decide +kernel
theorem dX2_costOf_32 : decode cX2_costOf 32 = .ok (.invokestatic 56, 3) := by decide +kernel
theorem dX2_costOf_35 : decode cX2_costOf 35 = .ok (.istore 4, 2) := by decide +kernel
theorem dX2_costOf_37 : decode cX2_costOf 37 = .ok (.aload_n 0, 1) := by decide +kernel
theorem dX2_costOf_38 : decode cX2_costOf 38 = .ok (.iload_n 2, 1) := by decide +kernel
theorem dX2_costOf_39 : decode cX2_costOf 39 = .ok (.iconst 1, 1) := by decide +kernel
theorem dX2_costOf_40 : decode cX2_costOf 40 = .ok (.invokevirtual 72, 3) := by decide +kernel
theorem dX2_costOf_43 : decode cX2_costOf 43 = .ok (.ifCond .eq 9, 3) := by decide +kernel
theorem dX2_costOf_46 : decode cX2_costOf 46 = .ok (.iload_n 3, 1) := by decide +kernel
theorem dX2_costOf_47 : decode cX2_costOf 47 = .ok (.iconst 2, 1) := by decide +kernel
theorem dX2_costOf_48 : decode cX2_costOf 48 = .ok (.idiv, 1) := by decide +kernel
theorem dX2_costOf_49 : decode cX2_costOf 49 = .ok (.goto 4, 3) := by decide +kernel
theorem dX2_costOf_52 : decode cX2_costOf 52 = .ok (.iload_n 3, 1) := by decide +kernel
theorem dX2_costOf_53 : decode cX2_costOf 53 = .ok (.istore 5, 2) := by decide +kernel
theorem dX2_costOf_55 : decode cX2_costOf 55 = .ok (.aload_n 0, 1) := by decide +kernel
theorem dX2_costOf_56 : decode cX2_costOf 56 = .ok (.getfield 18, 3) := by decide +kernel
theorem dX2_costOf_59 : decode cX2_costOf 59 = .ok (.iload_n 1, 1) := by decide +kernel
theorem dX2_costOf_60 : decode cX2_costOf 60 = .ok (.iaload, 1) := by decide +kernel
theorem dX2_costOf_61 : decode cX2_costOf 61 = .ok (.tableswitch 92 1 5 #[35, 38, 43, 50, 73], 35) := by decide +kernel
theorem dX2_costOf_96 : decode cX2_costOf 96 = .ok (.iload 5, 2) := by decide +kernel
theorem dX2_costOf_98 : decode cX2_costOf 98 = .ok (.ireturn, 1) := by decide +kernel
theorem dX2_costOf_99 : decode cX2_costOf 99 = .ok (.iload_n 3, 1) := by decide +kernel
theorem dX2_costOf_100 : decode cX2_costOf 100 = .ok (.iload 4, 2) := by decide +kernel
theorem dX2_costOf_102 : decode cX2_costOf 102 = .ok (.iadd, 1) := by decide +kernel
theorem dX2_costOf_103 : decode cX2_costOf 103 = .ok (.ireturn, 1) := by decide +kernel
theorem dX2_costOf_104 : decode cX2_costOf 104 = .ok (.iconst 2, 1) := by decide +kernel
theorem dX2_costOf_105 : decode cX2_costOf 105 = .ok (.iconst 4, 1) := by decide +kernel
theorem dX2_costOf_106 : decode cX2_costOf 106 = .ok (.iload 4, 2) := by decide +kernel
theorem dX2_costOf_108 : decode cX2_costOf 108 = .ok (.iadd, 1) := by decide +kernel
theorem dX2_costOf_109 : decode cX2_costOf 109 = .ok (.imul, 1) := by decide +kernel
theorem dX2_costOf_110 : decode cX2_costOf 110 = .ok (.ireturn, 1) := by decide +kernel
theorem dX2_costOf_111 : decode cX2_costOf 111 = .ok (.aload_n 0, 1) := by decide +kernel
theorem dX2_costOf_112 : decode cX2_costOf 112 = .ok (.iload_n 2, 1) := by decide +kernel
theorem dX2_costOf_113 : decode cX2_costOf 113 = .ok (.iconst 3, 1) := by decide +kernel
theorem dX2_costOf_114 : decode cX2_costOf 114 = .ok (.invokevirtual 72, 3) := by decide +kernel
theorem dX2_costOf_117 : decode cX2_costOf 117 = .ok (.ifCond .eq 14, 3) := by decide +kernel
theorem dX2_costOf_120 : decode cX2_costOf 120 = .ok (.iconst 1, 1) := by decide +kernel
theorem dX2_costOf_121 : decode cX2_costOf 121 = .ok (.iload 5, 2) := by decide +kernel
theorem dX2_costOf_123 : decode cX2_costOf 123 = .ok (.iconst 5, 1) := by decide +kernel
theorem dX2_costOf_124 : decode cX2_costOf 124 = .ok (.isub, 1) := by decide +kernel
theorem dX2_costOf_125 : decode cX2_costOf 125 = .ok (.invokestatic 76, 3) := by decide +kernel
theorem dX2_costOf_128 : decode cX2_costOf 128 = .ok (.goto 5, 3) := by decide +kernel
theorem dX2_costOf_131 : decode cX2_costOf 131 = .ok (.iload 5, 2) := by decide +kernel
theorem dX2_costOf_133 : decode cX2_costOf 133 = .ok (.ireturn, 1) := by decide +kernel
theorem dX2_costOf_134 : decode cX2_costOf 134 = .ok (.iconst 1, 1) := by decide +kernel
theorem dX2_costOf_135 : decode cX2_costOf 135 = .ok (.iload_n 3, 1) := by decide +kernel
theorem dX2_costOf_136 : decode cX2_costOf 136 = .ok (.iload 4, 2) := by decide +kernel
theorem dX2_costOf_138 : decode cX2_costOf 138 = .ok (.iadd, 1) := by decide +kernel
theorem dX2_costOf_139 : decode cX2_costOf 139 = .ok (.aload_n 0, 1) := by decide +kernel
theorem dX2_costOf_140 : decode cX2_costOf 140 = .ok (.getfield 24, 3) := by decide +kernel
theorem dX2_costOf_143 : decode cX2_costOf 143 = .ok (.iload_n 1, 1) := by decide +kernel
theorem dX2_costOf_144 : decode cX2_costOf 144 = .ok (.iaload, 1) := by decide +kernel
theorem dX2_costOf_145 : decode cX2_costOf 145 = .ok (.bipush 10, 2) := by decide +kernel
theorem dX2_costOf_147 : decode cX2_costOf 147 = .ok (.idiv, 1) := by decide +kernel
theorem dX2_costOf_148 : decode cX2_costOf 148 = .ok (.isub, 1) := by decide +kernel
theorem dX2_costOf_149 : decode cX2_costOf 149 = .ok (.invokestatic 76, 3) := by decide +kernel
theorem dX2_costOf_152 : decode cX2_costOf 152 = .ok (.ireturn, 1) := by decide +kernel
theorem dX2_costOf_153 : decode cX2_costOf 153 = .ok (.iload_n 3, 1) := by decide +kernel
theorem dX2_costOf_154 : decode cX2_costOf 154 = .ok (.ireturn, 1) := by decide +kernel
theorem dX2_isEither_0 : decode cX2_isEither 0 = .ok (.aload_n 0, 1) := by decide +kernel
theorem dX2_isEither_1 : decode cX2_isEither 1 = .ok (.getfield 9, 3) := by decide +kernel
theorem dX2_isEither_4 : decode cX2_isEither 4 = .ok (.iload_n 1, 1) := by decide +kernel
theorem dX2_isEither_5 : decode cX2_isEither 5 = .ok (.iaload, 1) := by decide +kernel
theorem dX2_isEither_6 : decode cX2_isEither 6 = .ok (.iload_n 2, 1) := by decide +kernel
theorem dX2_isEither_7 : decode cX2_isEither 7 = .ok (.if_icmp .eq 13, 3) := by decide +kernel
theorem dX2_isEither_10 : decode cX2_isEither 10 = .ok (.aload_n 0, 1) := by decide +kernel
theorem dX2_isEither_11 : decode cX2_isEither 11 = .ok (.getfield 15, 3) := by decide +kernel
theorem dX2_isEither_14 : decode cX2_isEither 14 = .ok (.iload_n 1, 1) := by decide +kernel
theorem dX2_isEither_15 : decode cX2_isEither 15 = .ok (.iaload, 1) := by decide +kernel
theorem dX2_isEither_16 : decode cX2_isEither 16 = .ok (.iload_n 2, 1) := by decide +kernel
theorem dX2_isEither_17 : decode cX2_isEither 17 = .ok (.if_icmp .ne 7, 3) := by decide +kernel
theorem dX2_isEither_20 : decode cX2_isEither 20 = .ok (.iconst 1, 1) := by decide +kernel
theorem dX2_isEither_21 : decode cX2_isEither 21 = .ok (.goto 4, 3) := by decide +kernel
theorem dX2_isEither_24 : decode cX2_isEither 24 = .ok (.iconst 0, 1) := by decide +kernel
theorem dX2_isEither_25 : decode cX2_isEither 25 = .ok (.ireturn, 1) := by decide +kernel
theorem dX2_goalOf_0 : decode cX2_goalOf 0 = .ok (.aload_n 0, 1) := by decide +kernel
theorem dX2_goalOf_1 : decode cX2_goalOf 1 = .ok (.getfield 46, 3) := by decide +kernel
theorem dX2_goalOf_4 : decode cX2_goalOf 4 = .ok (.lconst 0, 1) := by decide +kernel
theorem dX2_goalOf_5 : decode cX2_goalOf 5 = .ok (.lcmp, 1) := by decide +kernel
theorem dX2_goalOf_6 : decode cX2_goalOf 6 = .ok (.ifCond .ne 5, 3) := by decide +kernel
theorem dX2_goalOf_9 : decode cX2_goalOf 9 = .ok (.iconst (-1), 1) := by decide +kernel
theorem dX2_goalOf_10 : decode cX2_goalOf 10 = .ok (.ireturn, 1) := by decide +kernel
theorem dX2_goalOf_11 : decode cX2_goalOf 11 = .ok (.aload_n 0, 1) := by decide +kernel
theorem dX2_goalOf_12 : decode cX2_goalOf 12 = .ok (.getfield 18, 3) := by decide +kernel
theorem dX2_goalOf_15 : decode cX2_goalOf 15 = .ok (.iload_n 1, 1) := by decide +kernel
theorem dX2_goalOf_16 : decode cX2_goalOf 16 = .ok (.iaload, 1) := by decide +kernel
theorem dX2_goalOf_17 : decode cX2_goalOf 17 = .ok (.iconst 5, 1) := by decide +kernel
theorem dX2_goalOf_18 : decode cX2_goalOf 18 = .ok (.if_icmp .eq 14, 3) := by decide +kernel
theorem dX2_goalOf_21 : decode cX2_goalOf 21 = .ok (.aload_n 0, 1) := by decide +kernel
theorem dX2_goalOf_22 : decode cX2_goalOf 22 = .ok (.aload_n 0, 1) := by decide +kernel
theorem dX2_goalOf_23 : decode cX2_goalOf 23 = .ok (.getfield 21, 3) := by decide +kernel
theorem dX2_goalOf_26 : decode cX2_goalOf 26 = .ok (.iload_n 1, 1) := by decide +kernel
theorem dX2_goalOf_27 : decode cX2_goalOf 27 = .ok (.iaload, 1) := by decide +kernel
theorem dX2_goalOf_28 : decode cX2_goalOf 28 = .ok (.invokevirtual 80, 3) := by decide +kernel
theorem dX2_goalOf_31 : decode cX2_goalOf 31 = .ok (.ireturn, 1) := by decide +kernel
theorem dX2_goalOf_32 : decode cX2_goalOf 32 = .ok (.iconst (-1), 1) := by decide +kernel
theorem dX2_goalOf_33 : decode cX2_goalOf 33 = .ok (.istore_n 2, 1) := by decide +kernel
theorem dX2_goalOf_34 : decode cX2_goalOf 34 = .ok (.iconst 0, 1) := by decide +kernel
theorem dX2_goalOf_35 : decode cX2_goalOf 35 = .ok (.istore_n 3, 1) := by decide +kernel
theorem dX2_goalOf_36 : decode cX2_goalOf 36 = .ok (.iconst 0, 1) := by decide +kernel
theorem dX2_goalOf_37 : decode cX2_goalOf 37 = .ok (.istore 4, 2) := by decide +kernel
theorem dX2_goalOf_39 : decode cX2_goalOf 39 = .ok (.iload 4, 2) := by decide +kernel
theorem dX2_goalOf_41 : decode cX2_goalOf 41 = .ok (.bipush 48, 2) := by decide +kernel
theorem dX2_goalOf_43 : decode cX2_goalOf 43 = .ok (.if_icmp .ge 42, 3) := by decide +kernel
theorem dX2_goalOf_46 : decode cX2_goalOf 46 = .ok (.aload_n 0, 1) := by decide +kernel
theorem dX2_goalOf_47 : decode cX2_goalOf 47 = .ok (.getfield 46, 3) := by decide +kernel
theorem dX2_goalOf_50 : decode cX2_goalOf 50 = .ok (.iload 4, 2) := by decide +kernel
theorem dX2_goalOf_52 : decode cX2_goalOf 52 = .ok (.invokestatic 52, 3) := by decide +kernel
theorem dX2_goalOf_55 : decode cX2_goalOf 55 = .ok (.ifCond .eq 24, 3) := by decide +kernel
theorem dX2_goalOf_58 : decode cX2_goalOf 58 = .ok (.aload_n 0, 1) := by decide +kernel
theorem dX2_goalOf_59 : decode cX2_goalOf 59 = .ok (.iload_n 1, 1) := by decide +kernel
theorem dX2_goalOf_60 : decode cX2_goalOf 60 = .ok (.iload 4, 2) := by decide +kernel
theorem dX2_goalOf_62 : decode cX2_goalOf 62 = .ok (.invokevirtual 83, 3) := by decide +kernel
theorem dX2_goalOf_65 : decode cX2_goalOf 65 = .ok (.istore 5, 2) := by decide +kernel
theorem dX2_goalOf_67 : decode cX2_goalOf 67 = .ok (.iload 5, 2) := by decide +kernel
theorem dX2_goalOf_69 : decode cX2_goalOf 69 = .ok (.iload_n 3, 1) := by decide +kernel
theorem dX2_goalOf_70 : decode cX2_goalOf 70 = .ok (.if_icmp .le 9, 3) := by decide +kernel
theorem dX2_goalOf_73 : decode cX2_goalOf 73 = .ok (.iload 5, 2) := by decide +kernel
theorem dX2_goalOf_75 : decode cX2_goalOf 75 = .ok (.istore_n 3, 1) := by decide +kernel
theorem dX2_goalOf_76 : decode cX2_goalOf 76 = .ok (.iload 4, 2) := by decide +kernel
theorem dX2_goalOf_78 : decode cX2_goalOf 78 = .ok (.istore_n 2, 1) := by decide +kernel
theorem dX2_goalOf_79 : decode cX2_goalOf 79 = .ok (.iinc 4 1, 3) := by decide +kernel
theorem dX2_goalOf_82 : decode cX2_goalOf 82 = .ok (.goto (-43), 3) := by decide +kernel
theorem dX2_goalOf_85 : decode cX2_goalOf 85 = .ok (.iload_n 2, 1) := by decide +kernel
theorem dX2_goalOf_86 : decode cX2_goalOf 86 = .ok (.ireturn, 1) := by decide +kernel
theorem dX2_nearestTo_0 : decode cX2_nearestTo 0 = .ok (.lconst 1, 1) := by decide +kernel
theorem dX2_nearestTo_1 : decode cX2_nearestTo 1 = .ok (.iload_n 1, 1) := by decide +kernel
theorem dX2_nearestTo_2 : decode cX2_nearestTo 2 = .ok (.lshl, 1) := by decide +kernel
theorem dX2_nearestTo_3 : decode cX2_nearestTo 3 = .ok (.lstore_n 2, 1) := by decide +kernel
theorem dX2_nearestTo_4 : decode cX2_nearestTo 4 = .ok (.iconst 0, 1) := by decide +kernel
theorem dX2_nearestTo_5 : decode cX2_nearestTo 5 = .ok (.istore 4, 2) := by decide +kernel
theorem dX2_nearestTo_7 : decode cX2_nearestTo 7 = .ok (.iload 4, 2) := by decide +kernel
theorem dX2_nearestTo_9 : decode cX2_nearestTo 9 = .ok (.bipush 48, 2) := by decide +kernel
theorem dX2_nearestTo_11 : decode cX2_nearestTo 11 = .ok (.if_icmp .ge 27, 3) := by decide +kernel
theorem dX2_nearestTo_14 : decode cX2_nearestTo 14 = .ok (.lload_n 2, 1) := by decide +kernel
theorem dX2_nearestTo_15 : decode cX2_nearestTo 15 = .ok (.aload_n 0, 1) := by decide +kernel
theorem dX2_nearestTo_16 : decode cX2_nearestTo 16 = .ok (.getfield 46, 3) := by decide +kernel
theorem dX2_nearestTo_19 : decode cX2_nearestTo 19 = .ok (.land, 1) := by decide +kernel
theorem dX2_nearestTo_20 : decode cX2_nearestTo 20 = .ok (.lconst 0, 1) := by decide +kernel
theorem dX2_nearestTo_21 : decode cX2_nearestTo 21 = .ok (.lcmp, 1) := by decide +kernel
theorem dX2_nearestTo_22 : decode cX2_nearestTo 22 = .ok (.ifCond .ne 16, 3) := by decide +kernel
theorem dX2_nearestTo_25 : decode cX2_nearestTo 25 = .ok (.lload_n 2, 1) := by decide +kernel
theorem dX2_nearestTo_26 : decode cX2_nearestTo 26 = .ok (.lload_n 2, 1) := by decide +kernel
theorem dX2_nearestTo_27 : decode cX2_nearestTo 27 = .ok (.invokestatic 68, 3) := by decide +kernel
theorem dX2_nearestTo_30 : decode cX2_nearestTo 30 = .ok (.lor, 1) := by decide +kernel
theorem dX2_nearestTo_31 : decode cX2_nearestTo 31 = .ok (.lstore_n 2, 1) := by decide +kernel
theorem dX2_nearestTo_32 : decode cX2_nearestTo 32 = .ok (.iinc 4 1, 3) := by decide +kernel
theorem dX2_nearestTo_35 : decode cX2_nearestTo 35 = .ok (.goto (-28), 3) := by decide +kernel
theorem dX2_nearestTo_38 : decode cX2_nearestTo 38 = .ok (.lload_n 2, 1) := by decide +kernel
theorem dX2_nearestTo_39 : decode cX2_nearestTo 39 = .ok (.aload_n 0, 1) := by decide +kernel
theorem dX2_nearestTo_40 : decode cX2_nearestTo 40 = .ok (.getfield 46, 3) := by decide +kernel
theorem dX2_nearestTo_43 : decode cX2_nearestTo 43 = .ok (.land, 1) := by decide +kernel
theorem dX2_nearestTo_44 : decode cX2_nearestTo 44 = .ok (.invokestatic 86, 3) := by decide +kernel
theorem dX2_nearestTo_47 : decode cX2_nearestTo 47 = .ok (.ireturn, 1) := by decide +kernel
theorem dX2_costOfGoal_0 : decode cX2_costOfGoal 0 = .ok (.aload_n 0, 1) := by decide +kernel
theorem dX2_costOfGoal_1 : decode cX2_costOfGoal 1 = .ok (.iload_n 1, 1) := by decide +kernel
theorem dX2_costOfGoal_2 : decode cX2_costOfGoal 2 = .ok (.invokevirtual 89, 3) := by decide +kernel
theorem dX2_costOfGoal_5 : decode cX2_costOfGoal 5 = .ok (.istore_n 2, 1) := by decide +kernel
theorem dX2_costOfGoal_6 : decode cX2_costOfGoal 6 = .ok (.iload_n 2, 1) := by decide +kernel
theorem dX2_costOfGoal_7 : decode cX2_costOfGoal 7 = .ok (.ifCond .ge 7, 3) := by decide +kernel
theorem dX2_costOfGoal_10 : decode cX2_costOfGoal 10 = .ok (.iconst 0, 1) := by decide +kernel
theorem dX2_costOfGoal_11 : decode cX2_costOfGoal 11 = .ok (.goto 9, 3) := by decide +kernel
theorem dX2_costOfGoal_14 : decode cX2_costOfGoal 14 = .ok (.aload_n 0, 1) := by decide +kernel
theorem dX2_costOfGoal_15 : decode cX2_costOfGoal 15 = .ok (.iload_n 1, 1) := by decide +kernel
theorem dX2_costOfGoal_16 : decode cX2_costOfGoal 16 = .ok (.iload_n 2, 1) := by decide +kernel
theorem dX2_costOfGoal_17 : decode cX2_costOfGoal 17 = .ok (.invokevirtual 83, 3) := by decide +kernel
theorem dX2_costOfGoal_20 : decode cX2_costOfGoal 20 = .ok (.ireturn, 1) := by decide +kernel
theorem dX2_wrongOnceMended_0 : decode cX2_wrongOnceMended 0 = .ok (.aload_n 0, 1) := by decide +kernel
theorem dX2_wrongOnceMended_1 : decode cX2_wrongOnceMended 1 = .ok (.getfield 46, 3) := by decide +kernel
theorem dX2_wrongOnceMended_4 : decode cX2_wrongOnceMended 4 = .ok (.lconst 1, 1) := by decide +kernel
theorem dX2_wrongOnceMended_5 : decode cX2_wrongOnceMended 5 = .ok (.iload_n 2, 1) := by decide +kernel
theorem dX2_wrongOnceMended_6 : decode cX2_wrongOnceMended 6 = .ok (.lshl, 1) := by decide +kernel
theorem dX2_wrongOnceMended_7 : decode cX2_wrongOnceMended 7 = .ok (.ldc2_w 50, 3) := by decide +kernel
theorem dX2_wrongOnceMended_10 : decode cX2_wrongOnceMended 10 = .ok (.lxor, 1) := by decide +kernel
theorem dX2_wrongOnceMended_11 : decode cX2_wrongOnceMended 11 = .ok (.land, 1) := by decide +kernel
theorem dX2_wrongOnceMended_12 : decode cX2_wrongOnceMended 12 = .ok (.lstore_n 3, 1) := by decide +kernel
theorem dX2_wrongOnceMended_13 : decode cX2_wrongOnceMended 13 = .ok (.aload_n 0, 1) := by decide +kernel
theorem dX2_wrongOnceMended_14 : decode cX2_wrongOnceMended 14 = .ok (.getfield 18, 3) := by decide +kernel
theorem dX2_wrongOnceMended_17 : decode cX2_wrongOnceMended 17 = .ok (.iload_n 1, 1) := by decide +kernel
theorem dX2_wrongOnceMended_18 : decode cX2_wrongOnceMended 18 = .ok (.iaload, 1) := by decide +kernel
theorem dX2_wrongOnceMended_19 : decode cX2_wrongOnceMended 19 = .ok (.iconst 3, 1) := by decide +kernel
theorem dX2_wrongOnceMended_20 : decode cX2_wrongOnceMended 20 = .ok (.if_icmp .ne 5, 3) := by decide +kernel
theorem dX2_wrongOnceMended_23 : decode cX2_wrongOnceMended 23 = .ok (.lload_n 3, 1) := by decide +kernel
theorem dX2_wrongOnceMended_24 : decode cX2_wrongOnceMended 24 = .ok (.lreturn, 1) := by decide +kernel
theorem dX2_wrongOnceMended_25 : decode cX2_wrongOnceMended 25 = .ok (.aload_n 0, 1) := by decide +kernel
theorem dX2_wrongOnceMended_26 : decode cX2_wrongOnceMended 26 = .ok (.getfield 15, 3) := by decide +kernel
theorem dX2_wrongOnceMended_29 : decode cX2_wrongOnceMended 29 = .ok (.iload_n 2, 1) := by decide +kernel
theorem dX2_wrongOnceMended_30 : decode cX2_wrongOnceMended 30 = .ok (.iaload, 1) := by decide +kernel
theorem dX2_wrongOnceMended_31 : decode cX2_wrongOnceMended 31 = .ok (.invokestatic 92, 3) := by decide +kernel
theorem dX2_wrongOnceMended_34 : decode cX2_wrongOnceMended 34 = .ok (.istore 5, 2) := by decide +kernel
theorem dX2_wrongOnceMended_36 : decode cX2_wrongOnceMended 36 = .ok (.aload_n 0, 1) := by decide +kernel
theorem dX2_wrongOnceMended_37 : decode cX2_wrongOnceMended 37 = .ok (.getfield 15, 3) := by decide +kernel
theorem dX2_wrongOnceMended_40 : decode cX2_wrongOnceMended 40 = .ok (.iload_n 2, 1) := by decide +kernel
theorem dX2_wrongOnceMended_41 : decode cX2_wrongOnceMended 41 = .ok (.iaload, 1) := by decide +kernel
theorem dX2_wrongOnceMended_42 : decode cX2_wrongOnceMended 42 = .ok (.invokestatic 95, 3) := by decide +kernel
theorem dX2_wrongOnceMended_45 : decode cX2_wrongOnceMended 45 = .ok (.istore 6, 2) := by decide +kernel
theorem dX2_wrongOnceMended_47 : decode cX2_wrongOnceMended 47 = .ok (.iconst 0, 1) := by decide +kernel
theorem dX2_wrongOnceMended_48 : decode cX2_wrongOnceMended 48 = .ok (.istore 7, 2) := by decide +kernel
theorem dX2_wrongOnceMended_50 : decode cX2_wrongOnceMended 50 = .ok (.iload 7, 2) := by decide +kernel
theorem dX2_wrongOnceMended_52 : decode cX2_wrongOnceMended 52 = .ok (.iconst 4, 1) := by decide +kernel
theorem dX2_wrongOnceMended_53 : decode cX2_wrongOnceMended 53 = .ok (.if_icmp .ge 68, 3) := by decide +kernel
theorem dX2_wrongOnceMended_56 : decode cX2_wrongOnceMended 56 = .ok (.iload_n 2, 1) := by decide +kernel
theorem dX2_wrongOnceMended_57 : decode cX2_wrongOnceMended 57 = .ok (.iload 7, 2) := by decide +kernel
theorem dX2_wrongOnceMended_59 : decode cX2_wrongOnceMended 59 = .ok (.invokestatic 98, 3) := by decide +kernel
theorem dX2_wrongOnceMended_62 : decode cX2_wrongOnceMended 62 = .ok (.istore 8, 2) := by decide +kernel
theorem dX2_wrongOnceMended_64 : decode cX2_wrongOnceMended 64 = .ok (.iload 8, 2) := by decide +kernel
theorem dX2_wrongOnceMended_66 : decode cX2_wrongOnceMended 66 = .ok (.ifCond .lt 49, 3) := by decide +kernel
theorem dX2_wrongOnceMended_69 : decode cX2_wrongOnceMended 69 = .ok (.aload_n 0, 1) := by decide +kernel
theorem dX2_wrongOnceMended_70 : decode cX2_wrongOnceMended 70 = .ok (.getfield 9, 3) := by decide +kernel
theorem dX2_wrongOnceMended_73 : decode cX2_wrongOnceMended 73 = .ok (.iload 8, 2) := by decide +kernel
theorem dX2_wrongOnceMended_75 : decode cX2_wrongOnceMended 75 = .ok (.iaload, 1) := by decide +kernel
theorem dX2_wrongOnceMended_76 : decode cX2_wrongOnceMended 76 = .ok (.iload 5, 2) := by decide +kernel
theorem dX2_wrongOnceMended_78 : decode cX2_wrongOnceMended 78 = .ok (.if_icmp .ne 37, 3) := by decide +kernel
theorem dX2_wrongOnceMended_81 : decode cX2_wrongOnceMended 81 = .ok (.lconst 1, 1) := by decide +kernel
theorem dX2_wrongOnceMended_82 : decode cX2_wrongOnceMended 82 = .ok (.iload 8, 2) := by decide +kernel
theorem dX2_wrongOnceMended_84 : decode cX2_wrongOnceMended 84 = .ok (.lshl, 1) := by decide +kernel
theorem dX2_wrongOnceMended_85 : decode cX2_wrongOnceMended 85 = .ok (.lstore 9, 2) := by decide +kernel
theorem dX2_wrongOnceMended_87 : decode cX2_wrongOnceMended 87 = .ok (.aload_n 0, 1) := by decide +kernel
theorem dX2_wrongOnceMended_88 : decode cX2_wrongOnceMended 88 = .ok (.getfield 15, 3) := by decide +kernel
theorem dX2_wrongOnceMended_91 : decode cX2_wrongOnceMended 91 = .ok (.iload 8, 2) := by decide +kernel
theorem dX2_wrongOnceMended_93 : decode cX2_wrongOnceMended 93 = .ok (.iaload, 1) := by decide +kernel
theorem dX2_wrongOnceMended_94 : decode cX2_wrongOnceMended 94 = .ok (.iload 6, 2) := by decide +kernel
theorem dX2_wrongOnceMended_96 : decode cX2_wrongOnceMended 96 = .ok (.if_icmp .ne 14, 3) := by decide +kernel
theorem dX2_wrongOnceMended_99 : decode cX2_wrongOnceMended 99 = .ok (.lload_n 3, 1) := by decide +kernel
theorem dX2_wrongOnceMended_100 : decode cX2_wrongOnceMended 100 = .ok (.lload 9, 2) := by decide +kernel
theorem dX2_wrongOnceMended_102 : decode cX2_wrongOnceMended 102 = .ok (.ldc2_w 50, 3) := by decide +kernel
theorem dX2_wrongOnceMended_105 : decode cX2_wrongOnceMended 105 = .ok (.lxor, 1) := by decide +kernel
theorem dX2_wrongOnceMended_106 : decode cX2_wrongOnceMended 106 = .ok (.land, 1) := by decide +kernel
theorem dX2_wrongOnceMended_107 : decode cX2_wrongOnceMended 107 = .ok (.goto 7, 3) := by decide +kernel
theorem dX2_wrongOnceMended_110 : decode cX2_wrongOnceMended 110 = .ok (.lload_n 3, 1) := by decide +kernel
theorem dX2_wrongOnceMended_111 : decode cX2_wrongOnceMended 111 = .ok (.lload 9, 2) := by decide +kernel
theorem dX2_wrongOnceMended_113 : decode cX2_wrongOnceMended 113 = .ok (.lor, 1) := by decide +kernel
theorem dX2_wrongOnceMended_114 : decode cX2_wrongOnceMended 114 = .ok (.lstore_n 3, 1) := by decide +kernel
theorem dX2_wrongOnceMended_115 : decode cX2_wrongOnceMended 115 = .ok (.iinc 7 1, 3) := by decide +kernel
theorem dX2_wrongOnceMended_118 : decode cX2_wrongOnceMended 118 = .ok (.goto (-68), 3) := by decide +kernel
theorem dX2_wrongOnceMended_121 : decode cX2_wrongOnceMended 121 = .ok (.lload_n 3, 1) := by decide +kernel
theorem dX2_wrongOnceMended_122 : decode cX2_wrongOnceMended 122 = .ok (.lreturn, 1) := by decide +kernel
theorem dX2_mendFree_0 : decode cX2_mendFree 0 = .ok (.aload_n 0, 1) := by decide +kernel
theorem dX2_mendFree_1 : decode cX2_mendFree 1 = .ok (.getfield 21, 3) := by decide +kernel
theorem dX2_mendFree_4 : decode cX2_mendFree 4 = .ok (.iload_n 1, 1) := by decide +kernel
theorem dX2_mendFree_5 : decode cX2_mendFree 5 = .ok (.iload_n 2, 1) := by decide +kernel
theorem dX2_mendFree_6 : decode cX2_mendFree 6 = .ok (.iastore, 1) := by decide +kernel
theorem dX2_mendFree_7 : decode cX2_mendFree 7 = .ok (.aload_n 0, 1) := by decide +kernel
theorem dX2_mendFree_8 : decode cX2_mendFree 8 = .ok (.getfield 18, 3) := by decide +kernel
theorem dX2_mendFree_11 : decode cX2_mendFree 11 = .ok (.iload_n 1, 1) := by decide +kernel
theorem dX2_mendFree_12 : decode cX2_mendFree 12 = .ok (.iaload, 1) := by decide +kernel
theorem dX2_mendFree_13 : decode cX2_mendFree 13 = .ok (.iconst 3, 1) := by decide +kernel
theorem dX2_mendFree_14 : decode cX2_mendFree 14 = .ok (.if_icmp .ne 17, 3) := by decide +kernel
theorem dX2_mendFree_17 : decode cX2_mendFree 17 = .ok (.aload_n 0, 1) := by decide +kernel
theorem dX2_mendFree_18 : decode cX2_mendFree 18 = .ok (.iconst 1, 1) := by decide +kernel
theorem dX2_mendFree_19 : decode cX2_mendFree 19 = .ok (.iload_n 2, 1) := by decide +kernel
theorem dX2_mendFree_20 : decode cX2_mendFree 20 = .ok (.aload_n 0, 1) := by decide +kernel
theorem dX2_mendFree_21 : decode cX2_mendFree 21 = .ok (.getfield 9, 3) := by decide +kernel
theorem dX2_mendFree_24 : decode cX2_mendFree 24 = .ok (.iload_n 2, 1) := by decide +kernel
theorem dX2_mendFree_25 : decode cX2_mendFree 25 = .ok (.iaload, 1) := by decide +kernel
theorem dX2_mendFree_26 : decode cX2_mendFree 26 = .ok (.invokevirtual 101, 3) := by decide +kernel
theorem dX2_mendFree_29 : decode cX2_mendFree 29 = .ok (.pop, 1) := by decide +kernel
theorem dX2_mendFree_30 : decode cX2_mendFree 30 = .ok (.return_, 1) := by decide +kernel
theorem dX2_mendFree_31 : decode cX2_mendFree 31 = .ok (.aload_n 0, 1) := by decide +kernel
theorem dX2_mendFree_32 : decode cX2_mendFree 32 = .ok (.getfield 15, 3) := by decide +kernel
theorem dX2_mendFree_35 : decode cX2_mendFree 35 = .ok (.iload_n 2, 1) := by decide +kernel
theorem dX2_mendFree_36 : decode cX2_mendFree 36 = .ok (.iaload, 1) := by decide +kernel
theorem dX2_mendFree_37 : decode cX2_mendFree 37 = .ok (.istore_n 3, 1) := by decide +kernel
theorem dX2_mendFree_38 : decode cX2_mendFree 38 = .ok (.aload_n 0, 1) := by decide +kernel
theorem dX2_mendFree_39 : decode cX2_mendFree 39 = .ok (.iconst 0, 1) := by decide +kernel
theorem dX2_mendFree_40 : decode cX2_mendFree 40 = .ok (.iload_n 2, 1) := by decide +kernel
theorem dX2_mendFree_41 : decode cX2_mendFree 41 = .ok (.iload_n 3, 1) := by decide +kernel
theorem dX2_mendFree_42 : decode cX2_mendFree 42 = .ok (.invokevirtual 101, 3) := by decide +kernel
theorem dX2_mendFree_45 : decode cX2_mendFree 45 = .ok (.pop, 1) := by decide +kernel
theorem dX2_mendFree_46 : decode cX2_mendFree 46 = .ok (.iconst 0, 1) := by decide +kernel
theorem dX2_mendFree_47 : decode cX2_mendFree 47 = .ok (.istore 4, 2) := by decide +kernel
theorem dX2_mendFree_49 : decode cX2_mendFree 49 = .ok (.iload 4, 2) := by decide +kernel
theorem dX2_mendFree_51 : decode cX2_mendFree 51 = .ok (.iconst 4, 1) := by decide +kernel
theorem dX2_mendFree_52 : decode cX2_mendFree 52 = .ok (.if_icmp .ge 48, 3) := by decide +kernel
theorem dX2_mendFree_55 : decode cX2_mendFree 55 = .ok (.iload_n 2, 1) := by decide +kernel
theorem dX2_mendFree_56 : decode cX2_mendFree 56 = .ok (.iload 4, 2) := by decide +kernel
theorem dX2_mendFree_58 : decode cX2_mendFree 58 = .ok (.invokestatic 98, 3) := by decide +kernel
theorem dX2_mendFree_61 : decode cX2_mendFree 61 = .ok (.istore 5, 2) := by decide +kernel
theorem dX2_mendFree_63 : decode cX2_mendFree 63 = .ok (.iload 5, 2) := by decide +kernel
theorem dX2_mendFree_65 : decode cX2_mendFree 65 = .ok (.ifCond .lt 29, 3) := by decide +kernel
theorem dX2_mendFree_68 : decode cX2_mendFree 68 = .ok (.aload_n 0, 1) := by decide +kernel
theorem dX2_mendFree_69 : decode cX2_mendFree 69 = .ok (.getfield 9, 3) := by decide +kernel
theorem dX2_mendFree_72 : decode cX2_mendFree 72 = .ok (.iload 5, 2) := by decide +kernel
theorem dX2_mendFree_74 : decode cX2_mendFree 74 = .ok (.iaload, 1) := by decide +kernel
theorem dX2_mendFree_75 : decode cX2_mendFree 75 = .ok (.iload_n 3, 1) := by decide +kernel
theorem dX2_mendFree_76 : decode cX2_mendFree 76 = .ok (.invokestatic 92, 3) := by decide +kernel
theorem dX2_mendFree_79 : decode cX2_mendFree 79 = .ok (.if_icmp .ne 15, 3) := by decide +kernel
theorem dX2_mendFree_82 : decode cX2_mendFree 82 = .ok (.aload_n 0, 1) := by decide +kernel
theorem dX2_mendFree_83 : decode cX2_mendFree 83 = .ok (.iconst 0, 1) := by decide +kernel
theorem dX2_mendFree_84 : decode cX2_mendFree 84 = .ok (.iload 5, 2) := by decide +kernel
theorem dX2_mendFree_86 : decode cX2_mendFree 86 = .ok (.iload_n 3, 1) := by decide +kernel
theorem dX2_mendFree_87 : decode cX2_mendFree 87 = .ok (.invokestatic 95, 3) := by decide +kernel
theorem dX2_mendFree_90 : decode cX2_mendFree 90 = .ok (.invokevirtual 101, 3) := by decide +kernel
theorem dX2_mendFree_93 : decode cX2_mendFree 93 = .ok (.pop, 1) := by decide +kernel
theorem dX2_mendFree_94 : decode cX2_mendFree 94 = .ok (.iinc 4 1, 3) := by decide +kernel
theorem dX2_mendFree_97 : decode cX2_mendFree 97 = .ok (.goto (-48), 3) := by decide +kernel
theorem dX2_mendFree_100 : decode cX2_mendFree 100 = .ok (.return_, 1) := by decide +kernel
theorem dX2_payAndMend_0 : decode cX2_payAndMend 0 = .ok (.aload_n 0, 1) := by decide +kernel
theorem dX2_payAndMend_1 : decode cX2_payAndMend 1 = .ok (.getfield 24, 3) := by decide +kernel
theorem dX2_payAndMend_4 : decode cX2_payAndMend 4 = .ok (.iload_n 1, 1) := by decide +kernel
theorem dX2_payAndMend_5 : decode cX2_payAndMend 5 = .ok (.dup2, 1) := by decide +kernel
theorem dX2_payAndMend_6 : decode cX2_payAndMend 6 = .ok (.iaload, 1) := by decide +kernel
theorem dX2_payAndMend_7 : decode cX2_payAndMend 7 = .ok (.iload_n 3, 1) := by decide +kernel
theorem dX2_payAndMend_8 : decode cX2_payAndMend 8 = .ok (.isub, 1) := by decide +kernel
theorem dX2_payAndMend_9 : decode cX2_payAndMend 9 = .ok (.iastore, 1) := by decide +kernel
theorem dX2_payAndMend_10 : decode cX2_payAndMend 10 = .ok (.aload_n 0, 1) := by decide +kernel
theorem dX2_payAndMend_11 : decode cX2_payAndMend 11 = .ok (.getfield 27, 3) := by decide +kernel
theorem dX2_payAndMend_14 : decode cX2_payAndMend 14 = .ok (.iload_n 1, 1) := by decide +kernel
theorem dX2_payAndMend_15 : decode cX2_payAndMend 15 = .ok (.ldc 105, 2) := by decide +kernel
theorem dX2_payAndMend_17 : decode cX2_payAndMend 17 = .ok (.aload_n 0, 1) := by decide +kernel
theorem dX2_payAndMend_18 : decode cX2_payAndMend 18 = .ok (.getfield 27, 3) := by decide +kernel
theorem dX2_payAndMend_21 : decode cX2_payAndMend 21 = .ok (.iload_n 1, 1) := by decide +kernel
theorem dX2_payAndMend_22 : decode cX2_payAndMend 22 = .ok (.iaload, 1) := by decide +kernel
theorem dX2_payAndMend_23 : decode cX2_payAndMend 23 = .ok (.iload_n 3, 1) := by decide +kernel
theorem dX2_payAndMend_24 : decode cX2_payAndMend 24 = .ok (.iadd, 1) := by decide +kernel
theorem dX2_payAndMend_25 : decode cX2_payAndMend 25 = .ok (.invokestatic 106, 3) := by decide +kernel
theorem dX2_payAndMend_28 : decode cX2_payAndMend 28 = .ok (.iastore, 1) := by decide +kernel
theorem dX2_payAndMend_29 : decode cX2_payAndMend 29 = .ok (.aload_n 0, 1) := by decide +kernel
theorem dX2_payAndMend_30 : decode cX2_payAndMend 30 = .ok (.iload_n 1, 1) := by decide +kernel
theorem dX2_payAndMend_31 : decode cX2_payAndMend 31 = .ok (.iload_n 2, 1) := by decide +kernel
theorem dX2_payAndMend_32 : decode cX2_payAndMend 32 = .ok (.invokevirtual 109, 3) := by decide +kernel
theorem dX2_payAndMend_35 : decode cX2_payAndMend 35 = .ok (.return_, 1) := by decide +kernel
theorem dX2_sortSpoiltBy_0 : decode cX2_sortSpoiltBy 0 = .ok (.iload_n 0, 1) := by decide +kernel
theorem dX2_sortSpoiltBy_1 : decode cX2_sortSpoiltBy 1 = .ok (.iconst 1, 1) := by decide +kernel
theorem dX2_sortSpoiltBy_2 : decode cX2_sortSpoiltBy 2 = .ok (.if_icmp .ne 5, 3) := by decide +kernel
theorem dX2_sortSpoiltBy_5 : decode cX2_sortSpoiltBy 5 = .ok (.iconst 5, 1) := by decide +kernel
theorem dX2_sortSpoiltBy_6 : decode cX2_sortSpoiltBy 6 = .ok (.ireturn, 1) := by decide +kernel
theorem dX2_sortSpoiltBy_7 : decode cX2_sortSpoiltBy 7 = .ok (.iload_n 0, 1) := by decide +kernel
theorem dX2_sortSpoiltBy_8 : decode cX2_sortSpoiltBy 8 = .ok (.iconst 3, 1) := by decide +kernel
theorem dX2_sortSpoiltBy_9 : decode cX2_sortSpoiltBy 9 = .ok (.if_icmp .ne 7, 3) := by decide +kernel
theorem dX2_sortSpoiltBy_12 : decode cX2_sortSpoiltBy 12 = .ok (.iconst 0, 1) := by decide +kernel
theorem dX2_sortSpoiltBy_13 : decode cX2_sortSpoiltBy 13 = .ok (.goto 4, 3) := by decide +kernel
theorem dX2_sortSpoiltBy_16 : decode cX2_sortSpoiltBy 16 = .ok (.iconst (-1), 1) := by decide +kernel
theorem dX2_sortSpoiltBy_17 : decode cX2_sortSpoiltBy 17 = .ok (.ireturn, 1) := by decide +kernel
theorem dX2_sortSpoiltTo_0 : decode cX2_sortSpoiltTo 0 = .ok (.iload_n 0, 1) := by decide +kernel
theorem dX2_sortSpoiltTo_1 : decode cX2_sortSpoiltTo 1 = .ok (.iconst 1, 1) := by decide +kernel
theorem dX2_sortSpoiltTo_2 : decode cX2_sortSpoiltTo 2 = .ok (.if_icmp .ne 7, 3) := by decide +kernel
theorem dX2_sortSpoiltTo_5 : decode cX2_sortSpoiltTo 5 = .ok (.iconst 0, 1) := by decide +kernel
theorem dX2_sortSpoiltTo_6 : decode cX2_sortSpoiltTo 6 = .ok (.goto 4, 3) := by decide +kernel
theorem dX2_sortSpoiltTo_9 : decode cX2_sortSpoiltTo 9 = .ok (.iconst 5, 1) := by decide +kernel
theorem dX2_sortSpoiltTo_10 : decode cX2_sortSpoiltTo 10 = .ok (.ireturn, 1) := by decide +kernel
theorem dX2_cellAtSide_0 : decode cX2_cellAtSide 0 = .ok (.iload_n 0, 1) := by decide +kernel
theorem dX2_cellAtSide_1 : decode cX2_cellAtSide 1 = .ok (.bipush 8, 2) := by decide +kernel
theorem dX2_cellAtSide_3 : decode cX2_cellAtSide 3 = .ok (.irem, 1) := by decide +kernel
theorem dX2_cellAtSide_4 : decode cX2_cellAtSide 4 = .ok (.istore_n 2, 1) := by decide +kernel
theorem dX2_cellAtSide_5 : decode cX2_cellAtSide 5 = .ok (.iload_n 1, 1) := by decide +kernel
theorem dX2_cellAtSide_6 : decode cX2_cellAtSide 6 = .ok (.tableswitch 70 0 2 #[26, 41, 55], 26) := by decide +kernel
theorem dX2_cellAtSide_32 : decode cX2_cellAtSide 32 = .ok (.iload_n 0, 1) := by decide +kernel
theorem dX2_cellAtSide_33 : decode cX2_cellAtSide 33 = .ok (.bipush 8, 2) := by decide +kernel
theorem dX2_cellAtSide_35 : decode cX2_cellAtSide 35 = .ok (.if_icmp .lt 10, 3) := by decide +kernel
theorem dX2_cellAtSide_38 : decode cX2_cellAtSide 38 = .ok (.iload_n 0, 1) := by decide +kernel
theorem dX2_cellAtSide_39 : decode cX2_cellAtSide 39 = .ok (.bipush 8, 2) := by decide +kernel
theorem dX2_cellAtSide_41 : decode cX2_cellAtSide 41 = .ok (.isub, 1) := by decide +kernel
theorem dX2_cellAtSide_42 : decode cX2_cellAtSide 42 = .ok (.goto 4, 3) := by decide +kernel
theorem dX2_cellAtSide_45 : decode cX2_cellAtSide 45 = .ok (.iconst (-1), 1) := by decide +kernel
theorem dX2_cellAtSide_46 : decode cX2_cellAtSide 46 = .ok (.ireturn, 1) := by decide +kernel
theorem dX2_cellAtSide_47 : decode cX2_cellAtSide 47 = .ok (.iload_n 2, 1) := by decide +kernel
theorem dX2_cellAtSide_48 : decode cX2_cellAtSide 48 = .ok (.bipush 7, 2) := by decide +kernel
theorem dX2_cellAtSide_50 : decode cX2_cellAtSide 50 = .ok (.if_icmp .ge 9, 3) := by decide +kernel
theorem dX2_cellAtSide_53 : decode cX2_cellAtSide 53 = .ok (.iload_n 0, 1) := by decide +kernel
theorem dX2_cellAtSide_54 : decode cX2_cellAtSide 54 = .ok (.iconst 1, 1) := by decide +kernel
theorem dX2_cellAtSide_55 : decode cX2_cellAtSide 55 = .ok (.iadd, 1) := by decide +kernel
theorem dX2_cellAtSide_56 : decode cX2_cellAtSide 56 = .ok (.goto 4, 3) := by decide +kernel
theorem dX2_cellAtSide_59 : decode cX2_cellAtSide 59 = .ok (.iconst (-1), 1) := by decide +kernel
theorem dX2_cellAtSide_60 : decode cX2_cellAtSide 60 = .ok (.ireturn, 1) := by decide +kernel
theorem dX2_cellAtSide_61 : decode cX2_cellAtSide 61 = .ok (.iload_n 0, 1) := by decide +kernel
theorem dX2_cellAtSide_62 : decode cX2_cellAtSide 62 = .ok (.bipush 40, 2) := by decide +kernel
theorem dX2_cellAtSide_64 : decode cX2_cellAtSide 64 = .ok (.if_icmp .ge 10, 3) := by decide +kernel
theorem dX2_cellAtSide_67 : decode cX2_cellAtSide 67 = .ok (.iload_n 0, 1) := by decide +kernel
theorem dX2_cellAtSide_68 : decode cX2_cellAtSide 68 = .ok (.bipush 8, 2) := by decide +kernel
theorem dX2_cellAtSide_70 : decode cX2_cellAtSide 70 = .ok (.iadd, 1) := by decide +kernel
theorem dX2_cellAtSide_71 : decode cX2_cellAtSide 71 = .ok (.goto 4, 3) := by decide +kernel
theorem dX2_cellAtSide_74 : decode cX2_cellAtSide 74 = .ok (.iconst (-1), 1) := by decide +kernel
theorem dX2_cellAtSide_75 : decode cX2_cellAtSide 75 = .ok (.ireturn, 1) := by decide +kernel
theorem dX2_cellAtSide_76 : decode cX2_cellAtSide 76 = .ok (.iload_n 2, 1) := by decide +kernel
theorem dX2_cellAtSide_77 : decode cX2_cellAtSide 77 = .ok (.ifCond .le 9, 3) := by decide +kernel
theorem dX2_cellAtSide_80 : decode cX2_cellAtSide 80 = .ok (.iload_n 0, 1) := by decide +kernel
theorem dX2_cellAtSide_81 : decode cX2_cellAtSide 81 = .ok (.iconst 1, 1) := by decide +kernel
theorem dX2_cellAtSide_82 : decode cX2_cellAtSide 82 = .ok (.isub, 1) := by decide +kernel
theorem dX2_cellAtSide_83 : decode cX2_cellAtSide 83 = .ok (.goto 4, 3) := by decide +kernel
theorem dX2_cellAtSide_86 : decode cX2_cellAtSide 86 = .ok (.iconst (-1), 1) := by decide +kernel
theorem dX2_cellAtSide_87 : decode cX2_cellAtSide 87 = .ok (.ireturn, 1) := by decide +kernel
theorem dX2_bestFor_0 : decode cX2_bestFor 0 = .ok (.iconst (-1), 1) := by decide +kernel
theorem dX2_bestFor_1 : decode cX2_bestFor 1 = .ok (.istore_n 2, 1) := by decide +kernel
theorem dX2_bestFor_2 : decode cX2_bestFor 2 = .ok (.bipush 49, 2) := by decide +kernel
theorem dX2_bestFor_4 : decode cX2_bestFor 4 = .ok (.istore_n 3, 1) := by decide +kernel
theorem dX2_bestFor_5 : decode cX2_bestFor 5 = .ok (.iconst 0, 1) := by decide +kernel
theorem dX2_bestFor_6 : decode cX2_bestFor 6 = .ok (.istore 4, 2) := by decide +kernel
theorem dX2_bestFor_8 : decode cX2_bestFor 8 = .ok (.iload 4, 2) := by decide +kernel
theorem dX2_bestFor_10 : decode cX2_bestFor 10 = .ok (.bipush 48, 2) := by decide +kernel
theorem dX2_bestFor_12 : decode cX2_bestFor 12 = .ok (.if_icmp .ge 45, 3) := by decide +kernel
theorem dX2_bestFor_15 : decode cX2_bestFor 15 = .ok (.aload_n 0, 1) := by decide +kernel
theorem dX2_bestFor_16 : decode cX2_bestFor 16 = .ok (.getfield 46, 3) := by decide +kernel
theorem dX2_bestFor_19 : decode cX2_bestFor 19 = .ok (.iload 4, 2) := by decide +kernel
theorem dX2_bestFor_21 : decode cX2_bestFor 21 = .ok (.invokestatic 52, 3) := by decide +kernel
theorem dX2_bestFor_24 : decode cX2_bestFor 24 = .ok (.ifCond .eq 27, 3) := by decide +kernel
theorem dX2_bestFor_27 : decode cX2_bestFor 27 = .ok (.aload_n 0, 1) := by decide +kernel
theorem dX2_bestFor_28 : decode cX2_bestFor 28 = .ok (.iload_n 1, 1) := by decide +kernel
theorem dX2_bestFor_29 : decode cX2_bestFor 29 = .ok (.iload 4, 2) := by decide +kernel
theorem dX2_bestFor_31 : decode cX2_bestFor 31 = .ok (.invokevirtual 113, 3) := by decide +kernel
theorem dX2_bestFor_34 : decode cX2_bestFor 34 = .ok (.invokestatic 56, 3) := by decide +kernel
theorem dX2_bestFor_37 : decode cX2_bestFor 37 = .ok (.istore 5, 2) := by decide +kernel
theorem dX2_bestFor_39 : decode cX2_bestFor 39 = .ok (.iload 5, 2) := by decide +kernel
theorem dX2_bestFor_41 : decode cX2_bestFor 41 = .ok (.iload_n 3, 1) := by decide +kernel
theorem dX2_bestFor_42 : decode cX2_bestFor 42 = .ok (.if_icmp .ge 9, 3) := by decide +kernel
theorem dX2_bestFor_45 : decode cX2_bestFor 45 = .ok (.iload 5, 2) := by decide +kernel
theorem dX2_bestFor_47 : decode cX2_bestFor 47 = .ok (.istore_n 3, 1) := by decide +kernel
theorem dX2_bestFor_48 : decode cX2_bestFor 48 = .ok (.iload 4, 2) := by decide +kernel
theorem dX2_bestFor_50 : decode cX2_bestFor 50 = .ok (.istore_n 2, 1) := by decide +kernel
theorem dX2_bestFor_51 : decode cX2_bestFor 51 = .ok (.iinc 4 1, 3) := by decide +kernel
theorem dX2_bestFor_54 : decode cX2_bestFor 54 = .ok (.goto (-46), 3) := by decide +kernel
theorem dX2_bestFor_57 : decode cX2_bestFor 57 = .ok (.iload_n 2, 1) := by decide +kernel
theorem dX2_bestFor_58 : decode cX2_bestFor 58 = .ok (.ireturn, 1) := by decide +kernel
theorem dX2_passYears_0 : decode cX2_passYears 0 = .ok (.iconst 0, 1) := by decide +kernel
theorem dX2_passYears_1 : decode cX2_passYears 1 = .ok (.istore_n 3, 1) := by decide +kernel
theorem dX2_passYears_2 : decode cX2_passYears 2 = .ok (.iload_n 3, 1) := by decide +kernel
theorem dX2_passYears_3 : decode cX2_passYears 3 = .ok (.iload_n 1, 1) := by decide +kernel
theorem dX2_passYears_4 : decode cX2_passYears 4 = .ok (.if_icmp .ge 48, 3) := by decide +kernel
theorem dX2_passYears_7 : decode cX2_passYears 7 = .ok (.aload_n 0, 1) := by decide +kernel
theorem dX2_passYears_8 : decode cX2_passYears 8 = .ok (.getfield 46, 3) := by decide +kernel
theorem dX2_passYears_11 : decode cX2_passYears 11 = .ok (.lconst 0, 1) := by decide +kernel
theorem dX2_passYears_12 : decode cX2_passYears 12 = .ok (.lcmp, 1) := by decide +kernel
theorem dX2_passYears_13 : decode cX2_passYears 13 = .ok (.ifCond .eq 39, 3) := by decide +kernel
theorem dX2_passYears_16 : decode cX2_passYears 16 = .ok (.iconst 0, 1) := by decide +kernel
theorem dX2_passYears_17 : decode cX2_passYears 17 = .ok (.istore 4, 2) := by decide +kernel
theorem dX2_passYears_19 : decode cX2_passYears 19 = .ok (.iload 4, 2) := by decide +kernel
theorem dX2_passYears_21 : decode cX2_passYears 21 = .ok (.aload_n 0, 1) := by decide +kernel
theorem dX2_passYears_22 : decode cX2_passYears 22 = .ok (.getfield 40, 3) := by decide +kernel
theorem dX2_passYears_25 : decode cX2_passYears 25 = .ok (.if_icmp .ge 21, 3) := by decide +kernel
theorem dX2_passYears_28 : decode cX2_passYears 28 = .ok (.iload 4, 2) := by decide +kernel
theorem dX2_passYears_30 : decode cX2_passYears 30 = .ok (.iload_n 2, 1) := by decide +kernel
theorem dX2_passYears_31 : decode cX2_passYears 31 = .ok (.if_icmp .eq 9, 3) := by decide +kernel
theorem dX2_passYears_34 : decode cX2_passYears 34 = .ok (.aload_n 0, 1) := by decide +kernel
theorem dX2_passYears_35 : decode cX2_passYears 35 = .ok (.iload 4, 2) := by decide +kernel
theorem dX2_passYears_37 : decode cX2_passYears 37 = .ok (.invokevirtual 117, 3) := by decide +kernel
theorem dX2_passYears_40 : decode cX2_passYears 40 = .ok (.iinc 4 1, 3) := by decide +kernel
theorem dX2_passYears_43 : decode cX2_passYears 43 = .ok (.goto (-24), 3) := by decide +kernel
theorem dX2_passYears_46 : decode cX2_passYears 46 = .ok (.iinc 3 1, 3) := by decide +kernel
theorem dX2_passYears_49 : decode cX2_passYears 49 = .ok (.goto (-47), 3) := by decide +kernel
theorem dX2_passYears_52 : decode cX2_passYears 52 = .ok (.aload_n 0, 1) := by decide +kernel
theorem dX2_passYears_53 : decode cX2_passYears 53 = .ok (.invokevirtual 121, 3) := by decide +kernel
theorem dX2_passYears_56 : decode cX2_passYears 56 = .ok (.ireturn, 1) := by decide +kernel
theorem dX2_workOneYear_0 : decode cX2_workOneYear 0 = .ok (.aload_n 0, 1) := by decide +kernel
theorem dX2_workOneYear_1 : decode cX2_workOneYear 1 = .ok (.iload_n 1, 1) := by decide +kernel
theorem dX2_workOneYear_2 : decode cX2_workOneYear 2 = .ok (.invokevirtual 89, 3) := by decide +kernel
theorem dX2_workOneYear_5 : decode cX2_workOneYear 5 = .ok (.istore_n 2, 1) := by decide +kernel
theorem dX2_workOneYear_6 : decode cX2_workOneYear 6 = .ok (.iload_n 2, 1) := by decide +kernel
theorem dX2_workOneYear_7 : decode cX2_workOneYear 7 = .ok (.ifCond .ge 4, 3) := by decide +kernel
theorem dX2_workOneYear_10 : decode cX2_workOneYear 10 = .ok (.return_, 1) := by decide +kernel
theorem dX2_workOneYear_11 : decode cX2_workOneYear 11 = .ok (.aload_n 0, 1) := by decide +kernel
theorem dX2_workOneYear_12 : decode cX2_workOneYear 12 = .ok (.iload_n 1, 1) := by decide +kernel
theorem dX2_workOneYear_13 : decode cX2_workOneYear 13 = .ok (.iload_n 2, 1) := by decide +kernel
theorem dX2_workOneYear_14 : decode cX2_workOneYear 14 = .ok (.invokevirtual 83, 3) := by decide +kernel
theorem dX2_workOneYear_17 : decode cX2_workOneYear 17 = .ok (.istore_n 3, 1) := by decide +kernel
theorem dX2_workOneYear_18 : decode cX2_workOneYear 18 = .ok (.aload_n 0, 1) := by decide +kernel
theorem dX2_workOneYear_19 : decode cX2_workOneYear 19 = .ok (.getfield 24, 3) := by decide +kernel
theorem dX2_workOneYear_22 : decode cX2_workOneYear 22 = .ok (.iload_n 1, 1) := by decide +kernel
theorem dX2_workOneYear_23 : decode cX2_workOneYear 23 = .ok (.iaload, 1) := by decide +kernel
theorem dX2_workOneYear_24 : decode cX2_workOneYear 24 = .ok (.iload_n 3, 1) := by decide +kernel
theorem dX2_workOneYear_25 : decode cX2_workOneYear 25 = .ok (.if_icmp .lt 10, 3) := by decide +kernel
theorem dX2_workOneYear_28 : decode cX2_workOneYear 28 = .ok (.aload_n 0, 1) := by decide +kernel
theorem dX2_workOneYear_29 : decode cX2_workOneYear 29 = .ok (.iload_n 1, 1) := by decide +kernel
theorem dX2_workOneYear_30 : decode cX2_workOneYear 30 = .ok (.iload_n 2, 1) := by decide +kernel
theorem dX2_workOneYear_31 : decode cX2_workOneYear 31 = .ok (.iload_n 3, 1) := by decide +kernel
theorem dX2_workOneYear_32 : decode cX2_workOneYear 32 = .ok (.invokevirtual 125, 3) := by decide +kernel
theorem dX2_workOneYear_35 : decode cX2_workOneYear 35 = .ok (.aload_n 0, 1) := by decide +kernel
theorem dX2_workOneYear_36 : decode cX2_workOneYear 36 = .ok (.getfield 24, 3) := by decide +kernel
theorem dX2_workOneYear_39 : decode cX2_workOneYear 39 = .ok (.iload_n 1, 1) := by decide +kernel
theorem dX2_workOneYear_40 : decode cX2_workOneYear 40 = .ok (.sipush 9999, 3) := by decide +kernel
theorem dX2_workOneYear_43 : decode cX2_workOneYear 43 = .ok (.aload_n 0, 1) := by decide +kernel
theorem dX2_workOneYear_44 : decode cX2_workOneYear 44 = .ok (.getfield 24, 3) := by decide +kernel
theorem dX2_workOneYear_47 : decode cX2_workOneYear 47 = .ok (.iload_n 1, 1) := by decide +kernel
theorem dX2_workOneYear_48 : decode cX2_workOneYear 48 = .ok (.iaload, 1) := by decide +kernel
theorem dX2_workOneYear_49 : decode cX2_workOneYear 49 = .ok (.aload_n 0, 1) := by decide +kernel
theorem dX2_workOneYear_50 : decode cX2_workOneYear 50 = .ok (.getfield 30, 3) := by decide +kernel
theorem dX2_workOneYear_53 : decode cX2_workOneYear 53 = .ok (.iadd, 1) := by decide +kernel
theorem dX2_workOneYear_54 : decode cX2_workOneYear 54 = .ok (.invokestatic 106, 3) := by decide +kernel
theorem dX2_workOneYear_57 : decode cX2_workOneYear 57 = .ok (.iastore, 1) := by decide +kernel
theorem dX2_workOneYear_58 : decode cX2_workOneYear 58 = .ok (.return_, 1) := by decide +kernel
theorem dX3_init_0 : decode cX3_init 0 = .ok (.aload_n 0, 1) := by decide +kernel
theorem dX3_init_1 : decode cX3_init 1 = .ok (.invokespecial 1, 3) := by decide +kernel
theorem dX3_init_4 : decode cX3_init 4 = .ok (.aload_n 0, 1) := by decide +kernel
theorem dX3_init_5 : decode cX3_init 5 = .ok (.new 7, 3) := by decide +kernel
theorem dX3_init_8 : decode cX3_init 8 = .ok (.dup, 1) := by decide +kernel
theorem dX3_init_9 : decode cX3_init 9 = .ok (.invokespecial 9, 3) := by decide +kernel
theorem dX3_init_12 : decode cX3_init 12 = .ok (.putfield 10, 3) := by decide +kernel
theorem dX3_init_15 : decode cX3_init 15 = .ok (.aload_n 0, 1) := by decide +kernel
theorem dX3_init_16 : decode cX3_init 16 = .ok (.new 7, 3) := by decide +kernel
theorem dX3_init_19 : decode cX3_init 19 = .ok (.dup, 1) := by decide +kernel
theorem dX3_init_20 : decode cX3_init 20 = .ok (.invokespecial 9, 3) := by decide +kernel
theorem dX3_init_23 : decode cX3_init 23 = .ok (.putfield 16, 3) := by decide +kernel
theorem dX3_init_26 : decode cX3_init 26 = .ok (.aload_n 0, 1) := by decide +kernel
theorem dX3_init_27 : decode cX3_init 27 = .ok (.new 7, 3) := by decide +kernel
theorem dX3_init_30 : decode cX3_init 30 = .ok (.dup, 1) := by decide +kernel
theorem dX3_init_31 : decode cX3_init 31 = .ok (.invokespecial 9, 3) := by decide +kernel
theorem dX3_init_34 : decode cX3_init 34 = .ok (.putfield 19, 3) := by decide +kernel
theorem dX3_init_37 : decode cX3_init 37 = .ok (.aload_n 0, 1) := by decide +kernel
theorem dX3_init_38 : decode cX3_init 38 = .ok (.new 22, 3) := by decide +kernel
theorem dX3_init_41 : decode cX3_init 41 = .ok (.dup, 1) := by decide +kernel
theorem dX3_init_42 : decode cX3_init 42 = .ok (.invokespecial 24, 3) := by decide +kernel
theorem dX3_init_45 : decode cX3_init 45 = .ok (.putfield 25, 3) := by decide +kernel
theorem dX3_init_48 : decode cX3_init 48 = .ok (.aload_n 0, 1) := by decide +kernel
theorem dX3_init_49 : decode cX3_init 49 = .ok (.iconst 4, 1) := by decide +kernel
theorem dX3_init_50 : decode cX3_init 50 = .ok (.anewarray 29, 3) := by decide +kernel
theorem dX3_init_53 : decode cX3_init 53 = .ok (.putfield 31, 3) := by decide +kernel
theorem dX3_init_56 : decode cX3_init 56 = .ok (.aload_n 0, 1) := by decide +kernel
theorem dX3_init_57 : decode cX3_init 57 = .ok (.bipush 7, 2) := by decide +kernel
theorem dX3_init_59 : decode cX3_init 59 = .ok (.newarray .int, 2) := by decide +kernel
theorem dX3_init_61 : decode cX3_init 61 = .ok (.putfield 35, 3) := by decide +kernel
theorem dX3_init_64 : decode cX3_init 64 = .ok (.iconst 0, 1) := by decide +kernel
theorem dX3_init_65 : decode cX3_init 65 = .ok (.istore_n 1, 1) := by decide +kernel
theorem dX3_init_66 : decode cX3_init 66 = .ok (.iload_n 1, 1) := by decide +kernel
theorem dX3_init_67 : decode cX3_init 67 = .ok (.iconst 4, 1) := by decide +kernel
theorem dX3_init_68 : decode cX3_init 68 = .ok (.if_icmp .ge 22, 3) := by decide +kernel
theorem dX3_init_71 : decode cX3_init 71 = .ok (.aload_n 0, 1) := by decide +kernel
theorem dX3_init_72 : decode cX3_init 72 = .ok (.getfield 31, 3) := by decide +kernel
theorem dX3_init_75 : decode cX3_init 75 = .ok (.iload_n 1, 1) := by decide +kernel
theorem dX3_init_76 : decode cX3_init 76 = .ok (.new 29, 3) := by decide +kernel
theorem dX3_init_79 : decode cX3_init 79 = .ok (.dup, 1) := by decide +kernel
theorem dX3_init_80 : decode cX3_init 80 = .ok (.invokespecial 39, 3) := by decide +kernel
theorem dX3_init_83 : decode cX3_init 83 = .ok (.aastore, 1) := by decide +kernel
theorem dX3_init_84 : decode cX3_init 84 = .ok (.iinc 1 1, 3) := by decide +kernel
theorem dX3_init_87 : decode cX3_init 87 = .ok (.goto (-21), 3) := by decide +kernel
theorem dX3_init_90 : decode cX3_init 90 = .ok (.return_, 1) := by decide +kernel
theorem dX3_draw_0 : decode cX3_draw 0 = .ok (.iload_n 1, 1) := by decide +kernel
theorem dX3_draw_1 : decode cX3_draw 1 = .ok (.invokestatic 40, 3) := by decide +kernel
theorem dX3_draw_4 : decode cX3_draw 4 = .ok (.ifCond .ne 21, 3) := by decide +kernel
theorem dX3_draw_7 : decode cX3_draw 7 = .ok (.iload_n 2, 1) := by decide +kernel
theorem dX3_draw_8 : decode cX3_draw 8 = .ok (.iconst 0, 1) := by decide +kernel
theorem dX3_draw_9 : decode cX3_draw 9 = .ok (.iconst 1, 1) := by decide +kernel
theorem dX3_draw_10 : decode cX3_draw 10 = .ok (.invokestatic 44, 3) := by decide +kernel
theorem dX3_draw_13 : decode cX3_draw 13 = .ok (.ifCond .ne 12, 3) := by decide +kernel
theorem dX3_draw_16 : decode cX3_draw 16 = .ok (.iload_n 3, 1) := by decide +kernel
theorem dX3_draw_17 : decode cX3_draw 17 = .ok (.iconst 0, 1) := by decide +kernel
theorem dX3_draw_18 : decode cX3_draw 18 = .ok (.iconst 5, 1) := by decide +kernel
theorem dX3_draw_19 : decode cX3_draw 19 = .ok (.invokestatic 44, 3) := by decide +kernel
theorem dX3_draw_22 : decode cX3_draw 22 = .ok (.ifCond .eq 10, 3) := by decide +kernel
theorem dX3_draw_25 : decode cX3_draw 25 = .ok (.aload_n 0, 1) := by decide +kernel
theorem dX3_draw_26 : decode cX3_draw 26 = .ok (.ldc 48, 2) := by decide +kernel
theorem dX3_draw_28 : decode cX3_draw 28 = .ok (.invokevirtual 49, 3) := by decide +kernel
theorem dX3_draw_31 : decode cX3_draw 31 = .ok (.ireturn, 1) := by decide +kernel
theorem dX3_draw_32 : decode cX3_draw 32 = .ok (.aload_n 0, 1) := by decide +kernel
theorem dX3_draw_33 : decode cX3_draw 33 = .ok (.getfield 10, 3) := by decide +kernel
theorem dX3_draw_36 : decode cX3_draw 36 = .ok (.iload_n 2, 1) := by decide +kernel
theorem dX3_draw_37 : decode cX3_draw 37 = .ok (.iload_n 1, 1) := by decide +kernel
theorem dX3_draw_38 : decode cX3_draw 38 = .ok (.iload_n 3, 1) := by decide +kernel
theorem dX3_draw_39 : decode cX3_draw 39 = .ok (.invokevirtual 53, 3) := by decide +kernel
theorem dX3_draw_42 : decode cX3_draw 42 = .ok (.ireturn, 1) := by decide +kernel
theorem dX3_cell_0 : decode cX3_cell 0 = .ok (.iload_n 1, 1) := by decide +kernel
theorem dX3_cell_1 : decode cX3_cell 1 = .ok (.invokestatic 40, 3) := by decide +kernel
theorem dX3_cell_4 : decode cX3_cell 4 = .ok (.ifCond .ne 12, 3) := by decide +kernel
theorem dX3_cell_7 : decode cX3_cell 7 = .ok (.iload_n 2, 1) := by decide +kernel
theorem dX3_cell_8 : decode cX3_cell 8 = .ok (.iconst 0, 1) := by decide +kernel
theorem dX3_cell_9 : decode cX3_cell 9 = .ok (.iconst 4, 1) := by decide +kernel
theorem dX3_cell_10 : decode cX3_cell 10 = .ok (.invokestatic 44, 3) := by decide +kernel
theorem dX3_cell_13 : decode cX3_cell 13 = .ok (.ifCond .eq 10, 3) := by decide +kernel
theorem dX3_cell_16 : decode cX3_cell 16 = .ok (.aload_n 0, 1) := by decide +kernel
theorem dX3_cell_17 : decode cX3_cell 17 = .ok (.ldc 48, 2) := by decide +kernel
theorem dX3_cell_19 : decode cX3_cell 19 = .ok (.invokevirtual 49, 3) := by decide +kernel
theorem dX3_cell_22 : decode cX3_cell 22 = .ok (.ireturn, 1) := by decide +kernel
theorem dX3_cell_23 : decode cX3_cell 23 = .ok (.iload_n 2, 1) := by decide +kernel
theorem dX3_cell_24 : decode cX3_cell 24 = .ok (.tableswitch 87 0 3 #[32, 42, 52, 69], 32) := by decide +kernel
theorem dX3_cell_56 : decode cX3_cell 56 = .ok (.aload_n 0, 1) := by decide +kernel
theorem dX3_cell_57 : decode cX3_cell 57 = .ok (.getfield 10, 3) := by decide +kernel
theorem dX3_cell_60 : decode cX3_cell 60 = .ok (.getfield 57, 3) := by decide +kernel
theorem dX3_cell_63 : decode cX3_cell 63 = .ok (.iload_n 1, 1) := by decide +kernel
theorem dX3_cell_64 : decode cX3_cell 64 = .ok (.iaload, 1) := by decide +kernel
theorem dX3_cell_65 : decode cX3_cell 65 = .ok (.ireturn, 1) := by decide +kernel
theorem dX3_cell_66 : decode cX3_cell 66 = .ok (.aload_n 0, 1) := by decide +kernel
theorem dX3_cell_67 : decode cX3_cell 67 = .ok (.getfield 10, 3) := by decide +kernel
theorem dX3_cell_70 : decode cX3_cell 70 = .ok (.getfield 60, 3) := by decide +kernel
theorem dX3_cell_73 : decode cX3_cell 73 = .ok (.iload_n 1, 1) := by decide +kernel
theorem dX3_cell_74 : decode cX3_cell 74 = .ok (.iaload, 1) := by decide +kernel
theorem dX3_cell_75 : decode cX3_cell 75 = .ok (.ireturn, 1) := by decide +kernel
theorem dX3_cell_76 : decode cX3_cell 76 = .ok (.aload_n 0, 1) := by decide +kernel
theorem dX3_cell_77 : decode cX3_cell 77 = .ok (.getfield 10, 3) := by decide +kernel
theorem dX3_cell_80 : decode cX3_cell 80 = .ok (.iload_n 1, 1) := by decide +kernel
theorem dX3_cell_81 : decode cX3_cell 81 = .ok (.invokevirtual 63, 3) := by decide +kernel
theorem dX3_cell_84 : decode cX3_cell 84 = .ok (.ifCond .eq 7, 3) := by decide +kernel
theorem dX3_cell_87 : decode cX3_cell 87 = .ok (.iconst 1, 1) := by decide +kernel
theorem dX3_cell_88 : decode cX3_cell 88 = .ok (.goto 4, 3) := by decide +kernel
theorem dX3_cell_91 : decode cX3_cell 91 = .ok (.iconst 0, 1) := by decide +kernel
theorem dX3_cell_92 : decode cX3_cell 92 = .ok (.ireturn, 1) := by decide +kernel
theorem dX3_cell_93 : decode cX3_cell 93 = .ok (.aload_n 0, 1) := by decide +kernel
theorem dX3_cell_94 : decode cX3_cell 94 = .ok (.getfield 10, 3) := by decide +kernel
theorem dX3_cell_97 : decode cX3_cell 97 = .ok (.getfield 66, 3) := by decide +kernel
theorem dX3_cell_100 : decode cX3_cell 100 = .ok (.lconst 1, 1) := by decide +kernel
theorem dX3_cell_101 : decode cX3_cell 101 = .ok (.iload_n 1, 1) := by decide +kernel
theorem dX3_cell_102 : decode cX3_cell 102 = .ok (.lshl, 1) := by decide +kernel
theorem dX3_cell_103 : decode cX3_cell 103 = .ok (.invokestatic 70, 3) := by decide +kernel
theorem dX3_cell_106 : decode cX3_cell 106 = .ok (.land, 1) := by decide +kernel
theorem dX3_cell_107 : decode cX3_cell 107 = .ok (.invokestatic 74, 3) := by decide +kernel
theorem dX3_cell_110 : decode cX3_cell 110 = .ok (.ireturn, 1) := by decide +kernel
theorem dX3_cell_111 : decode cX3_cell 111 = .ok (.aload_n 0, 1) := by decide +kernel
theorem dX3_cell_112 : decode cX3_cell 112 = .ok (.getfield 10, 3) := by decide +kernel
theorem dX3_cell_115 : decode cX3_cell 115 = .ok (.iload_n 1, 1) := by decide +kernel
theorem dX3_cell_116 : decode cX3_cell 116 = .ok (.invokevirtual 80, 3) := by decide +kernel
theorem dX3_cell_119 : decode cX3_cell 119 = .ok (.ireturn, 1) := by decide +kernel
theorem dX3_cells_0 : decode cX3_cells 0 = .ok (.iload_n 1, 1) := by decide +kernel
theorem dX3_cells_1 : decode cX3_cells 1 = .ok (.iconst 0, 1) := by decide +kernel
theorem dX3_cells_2 : decode cX3_cells 2 = .ok (.bipush 6, 2) := by decide +kernel
theorem dX3_cells_4 : decode cX3_cells 4 = .ok (.invokestatic 44, 3) := by decide +kernel
theorem dX3_cells_7 : decode cX3_cells 7 = .ok (.ifCond .eq 11, 3) := by decide +kernel
theorem dX3_cells_10 : decode cX3_cells 10 = .ok (.aload_n 0, 1) := by decide +kernel
theorem dX3_cells_11 : decode cX3_cells 11 = .ok (.ldc 48, 2) := by decide +kernel
theorem dX3_cells_13 : decode cX3_cells 13 = .ok (.invokevirtual 49, 3) := by decide +kernel
end
section
theorem dX3_cells_16 : decode cX3_cells 16 = .ok (.i2l, 1) := by decide +kernel
theorem dX3_cells_17 : decode cX3_cells 17 = .ok (.lreturn, 1) := by decide +kernel
theorem dX3_cells_18 : decode cX3_cells 18 = .ok (.iload_n 1, 1) := by decide +kernel
theorem dX3_cells_19 : decode cX3_cells 19 = .ok (.ifCond .ne 13, 3) := by decide +kernel
theorem dX3_cells_22 : decode cX3_cells 22 = .ok (.aload_n 0, 1) := by decide +kernel
theorem dX3_cells_23 : decode cX3_cells 23 = .ok (.getfield 10, 3) := by decide +kernel
theorem dX3_cells_26 : decode cX3_cells 26 = .ok (.getfield 66, 3) := by decide +kernel
theorem dX3_cells_29 : decode cX3_cells 29 = .ok (.goto 13, 3) := by decide +kernel
theorem dX3_cells_32 : decode cX3_cells 32 = .ok (.aload_n 0, 1) := by decide +kernel
theorem dX3_cells_33 : decode cX3_cells 33 = .ok (.getfield 10, 3) := by decide +kernel
theorem dX3_cells_36 : decode cX3_cells 36 = .ok (.iload_n 1, 1) := by decide +kernel
theorem dX3_cells_37 : decode cX3_cells 37 = .ok (.iconst 1, 1) := by decide +kernel
theorem dX3_cells_38 : decode cX3_cells 38 = .ok (.isub, 1) := by decide +kernel
theorem dX3_cells_39 : decode cX3_cells 39 = .ok (.invokevirtual 83, 3) := by decide +kernel
theorem dX3_cells_42 : decode cX3_cells 42 = .ok (.lreturn, 1) := by decide +kernel
theorem dX3_income_0 : decode cX3_income 0 = .ok (.iload_n 1, 1) := by decide +kernel
theorem dX3_income_1 : decode cX3_income 1 = .ok (.iconst 0, 1) := by decide +kernel
theorem dX3_income_2 : decode cX3_income 2 = .ok (.bipush 20, 2) := by decide +kernel
theorem dX3_income_4 : decode cX3_income 4 = .ok (.invokestatic 44, 3) := by decide +kernel
theorem dX3_income_7 : decode cX3_income 7 = .ok (.ifCond .eq 10, 3) := by decide +kernel
theorem dX3_income_10 : decode cX3_income 10 = .ok (.aload_n 0, 1) := by decide +kernel
theorem dX3_income_11 : decode cX3_income 11 = .ok (.ldc 48, 2) := by decide +kernel
theorem dX3_income_13 : decode cX3_income 13 = .ok (.invokevirtual 49, 3) := by decide +kernel
theorem dX3_income_16 : decode cX3_income 16 = .ok (.ireturn, 1) := by decide +kernel
theorem dX3_income_17 : decode cX3_income 17 = .ok (.aload_n 0, 1) := by decide +kernel
theorem dX3_income_18 : decode cX3_income 18 = .ok (.getfield 10, 3) := by decide +kernel
theorem dX3_income_21 : decode cX3_income 21 = .ok (.getfield 87, 3) := by decide +kernel
theorem dX3_income_24 : decode cX3_income 24 = .ok (.istore_n 2, 1) := by decide +kernel
theorem dX3_income_25 : decode cX3_income 25 = .ok (.aload_n 0, 1) := by decide +kernel
theorem dX3_income_26 : decode cX3_income 26 = .ok (.getfield 10, 3) := by decide +kernel
theorem dX3_income_29 : decode cX3_income 29 = .ok (.iload_n 1, 1) := by decide +kernel
theorem dX3_income_30 : decode cX3_income 30 = .ok (.putfield 87, 3) := by decide +kernel
theorem dX3_income_33 : decode cX3_income 33 = .ok (.iload_n 2, 1) := by decide +kernel
theorem dX3_income_34 : decode cX3_income 34 = .ok (.ireturn, 1) := by decide +kernel
theorem dX3_mender_0 : decode cX3_mender 0 = .ok (.iload_n 1, 1) := by decide +kernel
theorem dX3_mender_1 : decode cX3_mender 1 = .ok (.invokestatic 91, 3) := by decide +kernel
theorem dX3_mender_4 : decode cX3_mender 4 = .ok (.ifCond .ne 10, 3) := by decide +kernel
theorem dX3_mender_7 : decode cX3_mender 7 = .ok (.iload_n 2, 1) := by decide +kernel
theorem dX3_mender_8 : decode cX3_mender 8 = .ok (.invokestatic 40, 3) := by decide +kernel
theorem dX3_mender_11 : decode cX3_mender 11 = .ok (.ifCond .eq 10, 3) := by decide +kernel
theorem dX3_mender_14 : decode cX3_mender 14 = .ok (.aload_n 0, 1) := by decide +kernel
theorem dX3_mender_15 : decode cX3_mender 15 = .ok (.ldc 48, 2) := by decide +kernel
theorem dX3_mender_17 : decode cX3_mender 17 = .ok (.invokevirtual 49, 3) := by decide +kernel
theorem dX3_mender_20 : decode cX3_mender 20 = .ok (.ireturn, 1) := by decide +kernel
theorem dX3_mender_21 : decode cX3_mender 21 = .ok (.aload_n 0, 1) := by decide +kernel
theorem dX3_mender_22 : decode cX3_mender 22 = .ok (.getfield 10, 3) := by decide +kernel
theorem dX3_mender_25 : decode cX3_mender 25 = .ok (.getfield 94, 3) := by decide +kernel
theorem dX3_mender_28 : decode cX3_mender 28 = .ok (.bipush 6, 2) := by decide +kernel
theorem dX3_mender_30 : decode cX3_mender 30 = .ok (.if_icmp .lt 10, 3) := by decide +kernel
theorem dX3_mender_33 : decode cX3_mender 33 = .ok (.aload_n 0, 1) := by decide +kernel
theorem dX3_mender_34 : decode cX3_mender 34 = .ok (.ldc 97, 2) := by decide +kernel
theorem dX3_mender_36 : decode cX3_mender 36 = .ok (.invokevirtual 49, 3) := by decide +kernel
theorem dX3_mender_39 : decode cX3_mender 39 = .ok (.ireturn, 1) := by decide +kernel
theorem dX3_mender_40 : decode cX3_mender 40 = .ok (.aload_n 0, 1) := by decide +kernel
theorem dX3_mender_41 : decode cX3_mender 41 = .ok (.getfield 10, 3) := by decide +kernel
theorem dX3_mender_44 : decode cX3_mender 44 = .ok (.iload_n 1, 1) := by decide +kernel
theorem dX3_mender_45 : decode cX3_mender 45 = .ok (.iload_n 2, 1) := by decide +kernel
theorem dX3_mender_46 : decode cX3_mender 46 = .ok (.bipush 50, 2) := by decide +kernel
theorem dX3_mender_48 : decode cX3_mender 48 = .ok (.invokevirtual 98, 3) := by decide +kernel
theorem dX3_mender_51 : decode cX3_mender 51 = .ok (.ireturn, 1) := by decide +kernel
theorem dX3_of_0 : decode cX3_of 0 = .ok (.aload_n 0, 1) := by decide +kernel
theorem dX3_of_1 : decode cX3_of 1 = .ok (.iload_n 1, 1) := by decide +kernel
theorem dX3_of_2 : decode cX3_of 2 = .ok (.invokevirtual 101, 3) := by decide +kernel
theorem dX3_of_5 : decode cX3_of 5 = .ok (.ifCond .ne 12, 3) := by decide +kernel
theorem dX3_of_8 : decode cX3_of 8 = .ok (.iload_n 2, 1) := by decide +kernel
theorem dX3_of_9 : decode cX3_of 9 = .ok (.iconst 0, 1) := by decide +kernel
theorem dX3_of_10 : decode cX3_of 10 = .ok (.iconst 5, 1) := by decide +kernel
theorem dX3_of_11 : decode cX3_of 11 = .ok (.invokestatic 44, 3) := by decide +kernel
theorem dX3_of_14 : decode cX3_of 14 = .ok (.ifCond .eq 10, 3) := by decide +kernel
theorem dX3_of_17 : decode cX3_of 17 = .ok (.aload_n 0, 1) := by decide +kernel
theorem dX3_of_18 : decode cX3_of 18 = .ok (.ldc 48, 2) := by decide +kernel
theorem dX3_of_20 : decode cX3_of 20 = .ok (.invokevirtual 49, 3) := by decide +kernel
theorem dX3_of_23 : decode cX3_of 23 = .ok (.ireturn, 1) := by decide +kernel
theorem dX3_of_24 : decode cX3_of 24 = .ok (.iload_n 2, 1) := by decide +kernel
theorem dX3_of_25 : decode cX3_of 25 = .ok (.tableswitch 84 0 4 #[35, 45, 55, 65, 75], 35) := by decide +kernel
theorem dX3_of_60 : decode cX3_of 60 = .ok (.aload_n 0, 1) := by decide +kernel
theorem dX3_of_61 : decode cX3_of 61 = .ok (.getfield 10, 3) := by decide +kernel
theorem dX3_of_64 : decode cX3_of 64 = .ok (.getfield 104, 3) := by decide +kernel
theorem dX3_of_67 : decode cX3_of 67 = .ok (.iload_n 1, 1) := by decide +kernel
theorem dX3_of_68 : decode cX3_of 68 = .ok (.iaload, 1) := by decide +kernel
theorem dX3_of_69 : decode cX3_of 69 = .ok (.ireturn, 1) := by decide +kernel
theorem dX3_of_70 : decode cX3_of 70 = .ok (.aload_n 0, 1) := by decide +kernel
theorem dX3_of_71 : decode cX3_of 71 = .ok (.getfield 10, 3) := by decide +kernel
theorem dX3_of_74 : decode cX3_of 74 = .ok (.getfield 107, 3) := by decide +kernel
theorem dX3_of_77 : decode cX3_of 77 = .ok (.iload_n 1, 1) := by decide +kernel
theorem dX3_of_78 : decode cX3_of 78 = .ok (.iaload, 1) := by decide +kernel
theorem dX3_of_79 : decode cX3_of 79 = .ok (.ireturn, 1) := by decide +kernel
theorem dX3_of_80 : decode cX3_of 80 = .ok (.aload_n 0, 1) := by decide +kernel
theorem dX3_of_81 : decode cX3_of 81 = .ok (.getfield 10, 3) := by decide +kernel
theorem dX3_of_84 : decode cX3_of 84 = .ok (.getfield 110, 3) := by decide +kernel
theorem dX3_of_87 : decode cX3_of 87 = .ok (.iload_n 1, 1) := by decide +kernel
theorem dX3_of_88 : decode cX3_of 88 = .ok (.iaload, 1) := by decide +kernel
theorem dX3_of_89 : decode cX3_of 89 = .ok (.ireturn, 1) := by decide +kernel
theorem dX3_of_90 : decode cX3_of 90 = .ok (.aload_n 0, 1) := by decide +kernel
theorem dX3_of_91 : decode cX3_of 91 = .ok (.getfield 10, 3) := by decide +kernel
theorem dX3_of_94 : decode cX3_of 94 = .ok (.getfield 113, 3) := by decide +kernel
theorem dX3_of_97 : decode cX3_of 97 = .ok (.iload_n 1, 1) := by decide +kernel
theorem dX3_of_98 : decode cX3_of 98 = .ok (.iaload, 1) := by decide +kernel
theorem dX3_of_99 : decode cX3_of 99 = .ok (.ireturn, 1) := by decide +kernel
theorem dX3_of_100 : decode cX3_of 100 = .ok (.aload_n 0, 1) := by decide +kernel
theorem dX3_of_101 : decode cX3_of 101 = .ok (.getfield 10, 3) := by decide +kernel
theorem dX3_of_104 : decode cX3_of 104 = .ok (.iload_n 1, 1) := by decide +kernel
theorem dX3_of_105 : decode cX3_of 105 = .ok (.invokevirtual 116, 3) := by decide +kernel
theorem dX3_of_108 : decode cX3_of 108 = .ok (.ireturn, 1) := by decide +kernel
theorem dX3_of_109 : decode cX3_of 109 = .ok (.aload_n 0, 1) := by decide +kernel
theorem dX3_of_110 : decode cX3_of 110 = .ok (.getfield 10, 3) := by decide +kernel
theorem dX3_of_113 : decode cX3_of 113 = .ok (.iload_n 1, 1) := by decide +kernel
theorem dX3_of_114 : decode cX3_of 114 = .ok (.invokevirtual 119, 3) := by decide +kernel
theorem dX3_of_117 : decode cX3_of 117 = .ok (.ireturn, 1) := by decide +kernel
theorem dX3_set_0 : decode cX3_set 0 = .ok (.aload_n 0, 1) := by decide +kernel
theorem dX3_set_1 : decode cX3_set 1 = .ok (.iload_n 1, 1) := by decide +kernel
theorem dX3_set_2 : decode cX3_set 2 = .ok (.invokevirtual 101, 3) := by decide +kernel
theorem dX3_set_5 : decode cX3_set 5 = .ok (.ifCond .ne 12, 3) := by decide +kernel
theorem dX3_set_8 : decode cX3_set 8 = .ok (.iload_n 2, 1) := by decide +kernel
theorem dX3_set_9 : decode cX3_set 9 = .ok (.iconst 1, 1) := by decide +kernel
theorem dX3_set_10 : decode cX3_set 10 = .ok (.iconst 2, 1) := by decide +kernel
theorem dX3_set_11 : decode cX3_set 11 = .ok (.invokestatic 44, 3) := by decide +kernel
theorem dX3_set_14 : decode cX3_set 14 = .ok (.ifCond .eq 10, 3) := by decide +kernel
theorem dX3_set_17 : decode cX3_set 17 = .ok (.aload_n 0, 1) := by decide +kernel
theorem dX3_set_18 : decode cX3_set 18 = .ok (.ldc 48, 2) := by decide +kernel
theorem dX3_set_20 : decode cX3_set 20 = .ok (.invokevirtual 49, 3) := by decide +kernel
theorem dX3_set_23 : decode cX3_set 23 = .ok (.ireturn, 1) := by decide +kernel
theorem dX3_set_24 : decode cX3_set 24 = .ok (.iload_n 2, 1) := by decide +kernel
theorem dX3_set_25 : decode cX3_set 25 = .ok (.iconst 1, 1) := by decide +kernel
theorem dX3_set_26 : decode cX3_set 26 = .ok (.if_icmp .ne 8, 3) := by decide +kernel
theorem dX3_set_29 : decode cX3_set 29 = .ok (.bipush 47, 2) := by decide +kernel
theorem dX3_set_31 : decode cX3_set 31 = .ok (.goto 6, 3) := by decide +kernel
theorem dX3_set_34 : decode cX3_set 34 = .ok (.sipush 9999, 3) := by decide +kernel
theorem dX3_set_37 : decode cX3_set 37 = .ok (.istore 4, 2) := by decide +kernel
theorem dX3_set_39 : decode cX3_set 39 = .ok (.iload_n 3, 1) := by decide +kernel
theorem dX3_set_40 : decode cX3_set 40 = .ok (.iconst 0, 1) := by decide +kernel
theorem dX3_set_41 : decode cX3_set 41 = .ok (.iload 4, 2) := by decide +kernel
theorem dX3_set_43 : decode cX3_set 43 = .ok (.invokestatic 44, 3) := by decide +kernel
theorem dX3_set_46 : decode cX3_set 46 = .ok (.ifCond .eq 10, 3) := by decide +kernel
theorem dX3_set_49 : decode cX3_set 49 = .ok (.aload_n 0, 1) := by decide +kernel
theorem dX3_set_50 : decode cX3_set 50 = .ok (.ldc 48, 2) := by decide +kernel
theorem dX3_set_52 : decode cX3_set 52 = .ok (.invokevirtual 49, 3) := by decide +kernel
theorem dX3_set_55 : decode cX3_set 55 = .ok (.ireturn, 1) := by decide +kernel
theorem dX3_set_56 : decode cX3_set 56 = .ok (.iload_n 2, 1) := by decide +kernel
theorem dX3_set_57 : decode cX3_set 57 = .ok (.iconst 1, 1) := by decide +kernel
theorem dX3_set_58 : decode cX3_set 58 = .ok (.if_icmp .ne 13, 3) := by decide +kernel
theorem dX3_set_61 : decode cX3_set 61 = .ok (.aload_n 0, 1) := by decide +kernel
theorem dX3_set_62 : decode cX3_set 62 = .ok (.getfield 10, 3) := by decide +kernel
theorem dX3_set_65 : decode cX3_set 65 = .ok (.getfield 107, 3) := by decide +kernel
theorem dX3_set_68 : decode cX3_set 68 = .ok (.goto 10, 3) := by decide +kernel
theorem dX3_set_71 : decode cX3_set 71 = .ok (.aload_n 0, 1) := by decide +kernel
theorem dX3_set_72 : decode cX3_set 72 = .ok (.getfield 10, 3) := by decide +kernel
theorem dX3_set_75 : decode cX3_set 75 = .ok (.getfield 110, 3) := by decide +kernel
theorem dX3_set_78 : decode cX3_set 78 = .ok (.astore 5, 2) := by decide +kernel
theorem dX3_set_80 : decode cX3_set 80 = .ok (.aload 5, 2) := by decide +kernel
theorem dX3_set_82 : decode cX3_set 82 = .ok (.iload_n 1, 1) := by decide +kernel
theorem dX3_set_83 : decode cX3_set 83 = .ok (.iaload, 1) := by decide +kernel
theorem dX3_set_84 : decode cX3_set 84 = .ok (.istore 6, 2) := by decide +kernel
theorem dX3_set_86 : decode cX3_set 86 = .ok (.aload 5, 2) := by decide +kernel
theorem dX3_set_88 : decode cX3_set 88 = .ok (.iload_n 1, 1) := by decide +kernel
theorem dX3_set_89 : decode cX3_set 89 = .ok (.iload_n 3, 1) := by decide +kernel
theorem dX3_set_90 : decode cX3_set 90 = .ok (.iastore, 1) := by decide +kernel
theorem dX3_set_91 : decode cX3_set 91 = .ok (.iload 6, 2) := by decide +kernel
theorem dX3_set_93 : decode cX3_set 93 = .ok (.ireturn, 1) := by decide +kernel
theorem dX3_turn_0 : decode cX3_turn 0 = .ok (.aload_n 0, 1) := by decide +kernel
theorem dX3_turn_1 : decode cX3_turn 1 = .ok (.iload_n 1, 1) := by decide +kernel
theorem dX3_turn_2 : decode cX3_turn 2 = .ok (.invokevirtual 101, 3) := by decide +kernel
theorem dX3_turn_5 : decode cX3_turn 5 = .ok (.ifCond .ne 10, 3) := by decide +kernel
theorem dX3_turn_8 : decode cX3_turn 8 = .ok (.iload_n 2, 1) := by decide +kernel
theorem dX3_turn_9 : decode cX3_turn 9 = .ok (.invokestatic 91, 3) := by decide +kernel
theorem dX3_turn_12 : decode cX3_turn 12 = .ok (.ifCond .eq 10, 3) := by decide +kernel
theorem dX3_turn_15 : decode cX3_turn 15 = .ok (.aload_n 0, 1) := by decide +kernel
theorem dX3_turn_16 : decode cX3_turn 16 = .ok (.ldc 48, 2) := by decide +kernel
theorem dX3_turn_18 : decode cX3_turn 18 = .ok (.invokevirtual 49, 3) := by decide +kernel
theorem dX3_turn_21 : decode cX3_turn 21 = .ok (.ireturn, 1) := by decide +kernel
theorem dX3_turn_22 : decode cX3_turn 22 = .ok (.aload_n 0, 1) := by decide +kernel
theorem dX3_turn_23 : decode cX3_turn 23 = .ok (.getfield 10, 3) := by decide +kernel
theorem dX3_turn_26 : decode cX3_turn 26 = .ok (.getfield 104, 3) := by decide +kernel
theorem dX3_turn_29 : decode cX3_turn 29 = .ok (.iload_n 1, 1) := by decide +kernel
theorem dX3_turn_30 : decode cX3_turn 30 = .ok (.iaload, 1) := by decide +kernel
theorem dX3_turn_31 : decode cX3_turn 31 = .ok (.istore_n 3, 1) := by decide +kernel
theorem dX3_turn_32 : decode cX3_turn 32 = .ok (.aload_n 0, 1) := by decide +kernel
theorem dX3_turn_33 : decode cX3_turn 33 = .ok (.getfield 10, 3) := by decide +kernel
theorem dX3_turn_36 : decode cX3_turn 36 = .ok (.getfield 104, 3) := by decide +kernel
theorem dX3_turn_39 : decode cX3_turn 39 = .ok (.iload_n 1, 1) := by decide +kernel
theorem dX3_turn_40 : decode cX3_turn 40 = .ok (.iload_n 2, 1) := by decide +kernel
theorem dX3_turn_41 : decode cX3_turn 41 = .ok (.iastore, 1) := by decide +kernel
theorem dX3_turn_42 : decode cX3_turn 42 = .ok (.iload_n 3, 1) := by decide +kernel
theorem dX3_turn_43 : decode cX3_turn 43 = .ok (.ireturn, 1) := by decide +kernel
theorem dX3_as_0 : decode cX3_as 0 = .ok (.aload_n 0, 1) := by decide +kernel
theorem dX3_as_1 : decode cX3_as 1 = .ok (.iload_n 1, 1) := by decide +kernel
theorem dX3_as_2 : decode cX3_as 2 = .ok (.invokevirtual 101, 3) := by decide +kernel
theorem dX3_as_5 : decode cX3_as 5 = .ok (.ifCond .ne 10, 3) := by decide +kernel
theorem dX3_as_8 : decode cX3_as 8 = .ok (.iload_n 2, 1) := by decide +kernel
theorem dX3_as_9 : decode cX3_as 9 = .ok (.invokestatic 91, 3) := by decide +kernel
theorem dX3_as_12 : decode cX3_as 12 = .ok (.ifCond .eq 10, 3) := by decide +kernel
theorem dX3_as_15 : decode cX3_as 15 = .ok (.aload_n 0, 1) := by decide +kernel
theorem dX3_as_16 : decode cX3_as 16 = .ok (.ldc 48, 2) := by decide +kernel
theorem dX3_as_18 : decode cX3_as 18 = .ok (.invokevirtual 49, 3) := by decide +kernel
theorem dX3_as_21 : decode cX3_as 21 = .ok (.ireturn, 1) := by decide +kernel
theorem dX3_as_22 : decode cX3_as 22 = .ok (.aload_n 0, 1) := by decide +kernel
theorem dX3_as_23 : decode cX3_as 23 = .ok (.getfield 10, 3) := by decide +kernel
theorem dX3_as_26 : decode cX3_as 26 = .ok (.getfield 104, 3) := by decide +kernel
theorem dX3_as_29 : decode cX3_as 29 = .ok (.iload_n 1, 1) := by decide +kernel
theorem dX3_as_30 : decode cX3_as 30 = .ok (.iaload, 1) := by decide +kernel
theorem dX3_as_31 : decode cX3_as 31 = .ok (.iload_n 2, 1) := by decide +kernel
theorem dX3_as_32 : decode cX3_as 32 = .ok (.invokestatic 122, 3) := by decide +kernel
theorem dX3_as_35 : decode cX3_as 35 = .ok (.ifCond .ne 10, 3) := by decide +kernel
theorem dX3_as_38 : decode cX3_as 38 = .ok (.aload_n 0, 1) := by decide +kernel
theorem dX3_as_39 : decode cX3_as 39 = .ok (.ldc 126, 2) := by decide +kernel
theorem dX3_as_41 : decode cX3_as 41 = .ok (.invokevirtual 49, 3) := by decide +kernel
theorem dX3_as_44 : decode cX3_as 44 = .ok (.ireturn, 1) := by decide +kernel
theorem dX3_as_45 : decode cX3_as 45 = .ok (.aload_n 0, 1) := by decide +kernel
theorem dX3_as_46 : decode cX3_as 46 = .ok (.getfield 10, 3) := by decide +kernel
theorem dX3_as_49 : decode cX3_as 49 = .ok (.getfield 110, 3) := by decide +kernel
theorem dX3_as_52 : decode cX3_as 52 = .ok (.iload_n 1, 1) := by decide +kernel
theorem dX3_as_53 : decode cX3_as 53 = .ok (.iaload, 1) := by decide +kernel
theorem dX3_as_54 : decode cX3_as 54 = .ok (.ireturn, 1) := by decide +kernel
theorem dX3_cost_0 : decode cX3_cost 0 = .ok (.aload_n 0, 1) := by decide +kernel
theorem dX3_cost_1 : decode cX3_cost 1 = .ok (.iload_n 1, 1) := by decide +kernel
theorem dX3_cost_2 : decode cX3_cost 2 = .ok (.invokevirtual 101, 3) := by decide +kernel
theorem dX3_cost_5 : decode cX3_cost 5 = .ok (.ifCond .ne 10, 3) := by decide +kernel
theorem dX3_cost_8 : decode cX3_cost 8 = .ok (.iload_n 2, 1) := by decide +kernel
theorem dX3_cost_9 : decode cX3_cost 9 = .ok (.invokestatic 40, 3) := by decide +kernel
theorem dX3_cost_12 : decode cX3_cost 12 = .ok (.ifCond .eq 10, 3) := by decide +kernel
theorem dX3_cost_15 : decode cX3_cost 15 = .ok (.aload_n 0, 1) := by decide +kernel
theorem dX3_cost_16 : decode cX3_cost 16 = .ok (.ldc 48, 2) := by decide +kernel
theorem dX3_cost_18 : decode cX3_cost 18 = .ok (.invokevirtual 49, 3) := by decide +kernel
theorem dX3_cost_21 : decode cX3_cost 21 = .ok (.ireturn, 1) := by decide +kernel
theorem dX3_cost_22 : decode cX3_cost 22 = .ok (.aload_n 0, 1) := by decide +kernel
theorem dX3_cost_23 : decode cX3_cost 23 = .ok (.getfield 10, 3) := by decide +kernel
theorem dX3_cost_26 : decode cX3_cost 26 = .ok (.iload_n 2, 1) := by decide +kernel
theorem dX3_cost_27 : decode cX3_cost 27 = .ok (.invokevirtual 63, 3) := by decide +kernel
theorem dX3_cost_30 : decode cX3_cost 30 = .ok (.ifCond .ne 10, 3) := by decide +kernel
theorem dX3_cost_33 : decode cX3_cost 33 = .ok (.aload_n 0, 1) := by decide +kernel
theorem dX3_cost_34 : decode cX3_cost 34 = .ok (.ldc 127, 2) := by decide +kernel
theorem dX3_cost_36 : decode cX3_cost 36 = .ok (.invokevirtual 49, 3) := by decide +kernel
theorem dX3_cost_39 : decode cX3_cost 39 = .ok (.ireturn, 1) := by decide +kernel
theorem dX3_cost_40 : decode cX3_cost 40 = .ok (.aload_n 0, 1) := by decide +kernel
theorem dX3_cost_41 : decode cX3_cost 41 = .ok (.getfield 10, 3) := by decide +kernel
theorem dX3_cost_44 : decode cX3_cost 44 = .ok (.iload_n 1, 1) := by decide +kernel
theorem dX3_cost_45 : decode cX3_cost 45 = .ok (.iload_n 2, 1) := by decide +kernel
theorem dX3_cost_46 : decode cX3_cost 46 = .ok (.invokevirtual 128, 3) := by decide +kernel
theorem dX3_cost_49 : decode cX3_cost 49 = .ok (.ireturn, 1) := by decide +kernel
theorem dX3_mend_0 : decode cX3_mend 0 = .ok (.aload_n 0, 1) := by decide +kernel
theorem dX3_mend_1 : decode cX3_mend 1 = .ok (.iload_n 1, 1) := by decide +kernel
theorem dX3_mend_2 : decode cX3_mend 2 = .ok (.invokevirtual 101, 3) := by decide +kernel
theorem dX3_mend_5 : decode cX3_mend 5 = .ok (.ifCond .ne 10, 3) := by decide +kernel
theorem dX3_mend_8 : decode cX3_mend 8 = .ok (.iload_n 2, 1) := by decide +kernel
theorem dX3_mend_9 : decode cX3_mend 9 = .ok (.invokestatic 40, 3) := by decide +kernel
theorem dX3_mend_12 : decode cX3_mend 12 = .ok (.ifCond .eq 10, 3) := by decide +kernel
theorem dX3_mend_15 : decode cX3_mend 15 = .ok (.aload_n 0, 1) := by decide +kernel
theorem dX3_mend_16 : decode cX3_mend 16 = .ok (.ldc 48, 2) := by decide +kernel
theorem dX3_mend_18 : decode cX3_mend 18 = .ok (.invokevirtual 49, 3) := by decide +kernel
theorem dX3_mend_21 : decode cX3_mend 21 = .ok (.ireturn, 1) := by decide +kernel
theorem dX3_mend_22 : decode cX3_mend 22 = .ok (.aload_n 0, 1) := by decide +kernel
theorem dX3_mend_23 : decode cX3_mend 23 = .ok (.getfield 10, 3) := by decide +kernel
theorem dX3_mend_26 : decode cX3_mend 26 = .ok (.iload_n 1, 1) := by decide +kernel
theorem dX3_mend_27 : decode cX3_mend 27 = .ok (.iload_n 2, 1) := by decide +kernel
theorem dX3_mend_28 : decode cX3_mend 28 = .ok (.invokevirtual 128, 3) := by decide +kernel
theorem dX3_mend_31 : decode cX3_mend 31 = .ok (.istore_n 3, 1) := by decide +kernel
theorem dX3_mend_32 : decode cX3_mend 32 = .ok (.aload_n 0, 1) := by decide +kernel
theorem dX3_mend_33 : decode cX3_mend 33 = .ok (.getfield 10, 3) := by decide +kernel
theorem dX3_mend_36 : decode cX3_mend 36 = .ok (.iload_n 2, 1) := by decide +kernel
theorem dX3_mend_37 : decode cX3_mend 37 = .ok (.invokevirtual 63, 3) := by decide +kernel
theorem dX3_mend_40 : decode cX3_mend 40 = .ok (.ifCond .eq 16, 3) := by decide +kernel
theorem dX3_mend_43 : decode cX3_mend 43 = .ok (.aload_n 0, 1) := by decide +kernel
theorem dX3_mend_44 : decode cX3_mend 44 = .ok (.getfield 10, 3) := by decide +kernel
theorem dX3_mend_47 : decode cX3_mend 47 = .ok (.getfield 110, 3) := by decide +kernel
theorem dX3_mend_50 : decode cX3_mend 50 = .ok (.iload_n 1, 1) := by decide +kernel
theorem dX3_mend_51 : decode cX3_mend 51 = .ok (.iaload, 1) := by decide +kernel
theorem dX3_mend_52 : decode cX3_mend 52 = .ok (.iload_n 3, 1) := by decide +kernel
theorem dX3_mend_53 : decode cX3_mend 53 = .ok (.if_icmp .ge 10, 3) := by decide +kernel
theorem dX3_mend_56 : decode cX3_mend 56 = .ok (.aload_n 0, 1) := by decide +kernel
theorem dX3_mend_57 : decode cX3_mend 57 = .ok (.ldc 127, 2) := by decide +kernel
theorem dX3_mend_59 : decode cX3_mend 59 = .ok (.invokevirtual 49, 3) := by decide +kernel
theorem dX3_mend_62 : decode cX3_mend 62 = .ok (.ireturn, 1) := by decide +kernel
theorem dX3_mend_63 : decode cX3_mend 63 = .ok (.aload_n 0, 1) := by decide +kernel
theorem dX3_mend_64 : decode cX3_mend 64 = .ok (.getfield 10, 3) := by decide +kernel
theorem dX3_mend_67 : decode cX3_mend 67 = .ok (.iload_n 1, 1) := by decide +kernel
theorem dX3_mend_68 : decode cX3_mend 68 = .ok (.iload_n 2, 1) := by decide +kernel
theorem dX3_mend_69 : decode cX3_mend 69 = .ok (.iload_n 3, 1) := by decide +kernel
theorem dX3_mend_70 : decode cX3_mend 70 = .ok (.invokevirtual 132, 3) := by decide +kernel
theorem dX3_mend_73 : decode cX3_mend 73 = .ok (.aload_n 0, 1) := by decide +kernel
theorem dX3_mend_74 : decode cX3_mend 74 = .ok (.getfield 10, 3) := by decide +kernel
theorem dX3_mend_77 : decode cX3_mend 77 = .ok (.invokevirtual 136, 3) := by decide +kernel
theorem dX3_mend_80 : decode cX3_mend 80 = .ok (.ireturn, 1) := by decide +kernel
theorem dX3_years_0 : decode cX3_years 0 = .ok (.iload_n 1, 1) := by decide +kernel
theorem dX3_years_1 : decode cX3_years 1 = .ok (.iconst 1, 1) := by decide +kernel
theorem dX3_years_2 : decode cX3_years 2 = .ok (.bipush 60, 2) := by decide +kernel
theorem dX3_years_4 : decode cX3_years 4 = .ok (.invokestatic 44, 3) := by decide +kernel
theorem dX3_years_7 : decode cX3_years 7 = .ok (.ifCond .eq 10, 3) := by decide +kernel
theorem dX3_years_10 : decode cX3_years 10 = .ok (.aload_n 0, 1) := by decide +kernel
theorem dX3_years_11 : decode cX3_years 11 = .ok (.ldc 48, 2) := by decide +kernel
theorem dX3_years_13 : decode cX3_years 13 = .ok (.invokevirtual 49, 3) := by decide +kernel
theorem dX3_years_16 : decode cX3_years 16 = .ok (.ireturn, 1) := by decide +kernel
theorem dX3_years_17 : decode cX3_years 17 = .ok (.aload_n 0, 1) := by decide +kernel
theorem dX3_years_18 : decode cX3_years 18 = .ok (.getfield 10, 3) := by decide +kernel
theorem dX3_years_21 : decode cX3_years 21 = .ok (.getfield 140, 3) := by decide +kernel
theorem dX3_years_24 : decode cX3_years 24 = .ok (.iload_n 1, 1) := by decide +kernel
theorem dX3_years_25 : decode cX3_years 25 = .ok (.iadd, 1) := by decide +kernel
theorem dX3_years_26 : decode cX3_years 26 = .ok (.sipush 9999, 3) := by decide +kernel
theorem dX3_years_29 : decode cX3_years 29 = .ok (.if_icmp .le 10, 3) := by decide +kernel
theorem dX3_years_32 : decode cX3_years 32 = .ok (.aload_n 0, 1) := by decide +kernel
theorem dX3_years_33 : decode cX3_years 33 = .ok (.ldc 127, 2) := by decide +kernel
theorem dX3_years_35 : decode cX3_years 35 = .ok (.invokevirtual 49, 3) := by decide +kernel
theorem dX3_years_38 : decode cX3_years 38 = .ok (.ireturn, 1) := by decide +kernel
theorem dX3_years_39 : decode cX3_years 39 = .ok (.aload_n 0, 1) := by decide +kernel
theorem dX3_years_40 : decode cX3_years 40 = .ok (.getfield 10, 3) := by decide +kernel
theorem dX3_years_43 : decode cX3_years 43 = .ok (.dup, 1) := by decide +kernel
theorem dX3_years_44 : decode cX3_years 44 = .ok (.getfield 140, 3) := by decide +kernel
theorem dX3_years_47 : decode cX3_years 47 = .ok (.iload_n 1, 1) := by decide +kernel
theorem dX3_years_48 : decode cX3_years 48 = .ok (.iadd, 1) := by decide +kernel
theorem dX3_years_49 : decode cX3_years 49 = .ok (.putfield 140, 3) := by decide +kernel
theorem dX3_years_52 : decode cX3_years 52 = .ok (.aload_n 0, 1) := by decide +kernel
theorem dX3_years_53 : decode cX3_years 53 = .ok (.getfield 10, 3) := by decide +kernel
theorem dX3_years_56 : decode cX3_years 56 = .ok (.iload_n 1, 1) := by decide +kernel
theorem dX3_years_57 : decode cX3_years 57 = .ok (.iconst (-1), 1) := by decide +kernel
theorem dX3_years_58 : decode cX3_years 58 = .ok (.invokevirtual 143, 3) := by decide +kernel
theorem dX3_years_61 : decode cX3_years 61 = .ok (.ireturn, 1) := by decide +kernel
theorem dX3_now_0 : decode cX3_now 0 = .ok (.iload_n 1, 1) := by decide +kernel
theorem dX3_now_1 : decode cX3_now 1 = .ok (.iconst 0, 1) := by decide +kernel
theorem dX3_now_2 : decode cX3_now 2 = .ok (.iconst 4, 1) := by decide +kernel
theorem dX3_now_3 : decode cX3_now 3 = .ok (.invokestatic 44, 3) := by decide +kernel
theorem dX3_now_6 : decode cX3_now 6 = .ok (.ifCond .eq 10, 3) := by decide +kernel
theorem dX3_now_9 : decode cX3_now 9 = .ok (.aload_n 0, 1) := by decide +kernel
theorem dX3_now_10 : decode cX3_now 10 = .ok (.ldc 48, 2) := by decide +kernel
theorem dX3_now_12 : decode cX3_now 12 = .ok (.invokevirtual 49, 3) := by decide +kernel
theorem dX3_now_15 : decode cX3_now 15 = .ok (.ireturn, 1) := by decide +kernel
theorem dX3_now_16 : decode cX3_now 16 = .ok (.iload_n 1, 1) := by decide +kernel
theorem dX3_now_17 : decode cX3_now 17 = .ok (.tableswitch 77 0 3 #[31, 39, 47, 62], 31) := by decide +kernel
theorem dX3_now_48 : decode cX3_now 48 = .ok (.aload_n 0, 1) := by decide +kernel
theorem dX3_now_49 : decode cX3_now 49 = .ok (.getfield 10, 3) := by decide +kernel
theorem dX3_now_52 : decode cX3_now 52 = .ok (.getfield 140, 3) := by decide +kernel
theorem dX3_now_55 : decode cX3_now 55 = .ok (.ireturn, 1) := by decide +kernel
theorem dX3_now_56 : decode cX3_now 56 = .ok (.aload_n 0, 1) := by decide +kernel
theorem dX3_now_57 : decode cX3_now 57 = .ok (.getfield 10, 3) := by decide +kernel
theorem dX3_now_60 : decode cX3_now 60 = .ok (.invokevirtual 136, 3) := by decide +kernel
theorem dX3_now_63 : decode cX3_now 63 = .ok (.ireturn, 1) := by decide +kernel
theorem dX3_now_64 : decode cX3_now 64 = .ok (.aload_n 0, 1) := by decide +kernel
theorem dX3_now_65 : decode cX3_now 65 = .ok (.getfield 10, 3) := by decide +kernel
theorem dX3_now_68 : decode cX3_now 68 = .ok (.aload_n 0, 1) := by decide +kernel
theorem dX3_now_69 : decode cX3_now 69 = .ok (.getfield 10, 3) := by decide +kernel
theorem dX3_now_72 : decode cX3_now 72 = .ok (.getfield 110, 3) := by decide +kernel
theorem dX3_now_75 : decode cX3_now 75 = .ok (.invokevirtual 146, 3) := by decide +kernel
theorem dX3_now_78 : decode cX3_now 78 = .ok (.ireturn, 1) := by decide +kernel
theorem dX3_now_79 : decode cX3_now 79 = .ok (.aload_n 0, 1) := by decide +kernel
theorem dX3_now_80 : decode cX3_now 80 = .ok (.getfield 10, 3) := by decide +kernel
theorem dX3_now_83 : decode cX3_now 83 = .ok (.aload_n 0, 1) := by decide +kernel
theorem dX3_now_84 : decode cX3_now 84 = .ok (.getfield 10, 3) := by decide +kernel
theorem dX3_now_87 : decode cX3_now 87 = .ok (.getfield 113, 3) := by decide +kernel
theorem dX3_now_90 : decode cX3_now 90 = .ok (.invokevirtual 146, 3) := by decide +kernel
theorem dX3_now_93 : decode cX3_now 93 = .ok (.ireturn, 1) := by decide +kernel
theorem dX3_now_94 : decode cX3_now 94 = .ok (.aload_n 0, 1) := by decide +kernel
theorem dX3_now_95 : decode cX3_now 95 = .ok (.getfield 10, 3) := by decide +kernel
theorem dX3_now_98 : decode cX3_now 98 = .ok (.getfield 87, 3) := by decide +kernel
theorem dX3_now_101 : decode cX3_now 101 = .ok (.ireturn, 1) := by decide +kernel
theorem dX3_on_0 : decode cX3_on 0 = .ok (.aload_n 0, 1) := by decide +kernel
theorem dX3_on_1 : decode cX3_on 1 = .ok (.iload_n 1, 1) := by decide +kernel
theorem dX3_on_2 : decode cX3_on 2 = .ok (.invokevirtual 101, 3) := by decide +kernel
theorem dX3_on_5 : decode cX3_on 5 = .ok (.ifCond .ne 22, 3) := by decide +kernel
theorem dX3_on_8 : decode cX3_on 8 = .ok (.iload_n 2, 1) := by decide +kernel
theorem dX3_on_9 : decode cX3_on 9 = .ok (.iconst 0, 1) := by decide +kernel
theorem dX3_on_10 : decode cX3_on 10 = .ok (.bipush 60, 2) := by decide +kernel
theorem dX3_on_12 : decode cX3_on 12 = .ok (.invokestatic 44, 3) := by decide +kernel
theorem dX3_on_15 : decode cX3_on 15 = .ok (.ifCond .ne 12, 3) := by decide +kernel
theorem dX3_on_18 : decode cX3_on 18 = .ok (.iload_n 3, 1) := by decide +kernel
theorem dX3_on_19 : decode cX3_on 19 = .ok (.iconst 0, 1) := by decide +kernel
theorem dX3_on_20 : decode cX3_on 20 = .ok (.iconst 2, 1) := by decide +kernel
theorem dX3_on_21 : decode cX3_on 21 = .ok (.invokestatic 44, 3) := by decide +kernel
theorem dX3_on_24 : decode cX3_on 24 = .ok (.ifCond .eq 10, 3) := by decide +kernel
theorem dX3_on_27 : decode cX3_on 27 = .ok (.aload_n 0, 1) := by decide +kernel
theorem dX3_on_28 : decode cX3_on 28 = .ok (.ldc 48, 2) := by decide +kernel
theorem dX3_on_30 : decode cX3_on 30 = .ok (.invokevirtual 49, 3) := by decide +kernel
theorem dX3_on_33 : decode cX3_on 33 = .ok (.ireturn, 1) := by decide +kernel
theorem dX3_on_34 : decode cX3_on 34 = .ok (.aload_n 0, 1) := by decide +kernel
theorem dX3_on_35 : decode cX3_on 35 = .ok (.getfield 16, 3) := by decide +kernel
theorem dX3_on_38 : decode cX3_on 38 = .ok (.aload_n 0, 1) := by decide +kernel
theorem dX3_on_39 : decode cX3_on 39 = .ok (.getfield 10, 3) := by decide +kernel
theorem dX3_on_42 : decode cX3_on 42 = .ok (.invokevirtual 150, 3) := by decide +kernel
theorem dX3_on_45 : decode cX3_on 45 = .ok (.aload_n 0, 1) := by decide +kernel
theorem dX3_on_46 : decode cX3_on 46 = .ok (.getfield 16, 3) := by decide +kernel
theorem dX3_on_49 : decode cX3_on 49 = .ok (.iload_n 2, 1) := by decide +kernel
theorem dX3_on_50 : decode cX3_on 50 = .ok (.iconst (-1), 1) := by decide +kernel
theorem dX3_on_51 : decode cX3_on 51 = .ok (.invokevirtual 143, 3) := by decide +kernel
theorem dX3_on_54 : decode cX3_on 54 = .ok (.pop, 1) := by decide +kernel
theorem dX3_on_55 : decode cX3_on 55 = .ok (.iload_n 3, 1) := by decide +kernel
theorem dX3_on_56 : decode cX3_on 56 = .ok (.lookupswitch 48 #[(0, 28), (1, 38)], 28) := by decide +kernel
theorem dX3_on_84 : decode cX3_on 84 = .ok (.aload_n 0, 1) := by decide +kernel
theorem dX3_on_85 : decode cX3_on 85 = .ok (.getfield 16, 3) := by decide +kernel
theorem dX3_on_88 : decode cX3_on 88 = .ok (.getfield 107, 3) := by decide +kernel
theorem dX3_on_91 : decode cX3_on 91 = .ok (.iload_n 1, 1) := by decide +kernel
theorem dX3_on_92 : decode cX3_on 92 = .ok (.iaload, 1) := by decide +kernel
theorem dX3_on_93 : decode cX3_on 93 = .ok (.ireturn, 1) := by decide +kernel
theorem dX3_on_94 : decode cX3_on 94 = .ok (.aload_n 0, 1) := by decide +kernel
theorem dX3_on_95 : decode cX3_on 95 = .ok (.getfield 16, 3) := by decide +kernel
theorem dX3_on_98 : decode cX3_on 98 = .ok (.getfield 110, 3) := by decide +kernel
theorem dX3_on_101 : decode cX3_on 101 = .ok (.iload_n 1, 1) := by decide +kernel
theorem dX3_on_102 : decode cX3_on 102 = .ok (.iaload, 1) := by decide +kernel
theorem dX3_on_103 : decode cX3_on 103 = .ok (.ireturn, 1) := by decide +kernel
theorem dX3_on_104 : decode cX3_on 104 = .ok (.aload_n 0, 1) := by decide +kernel
theorem dX3_on_105 : decode cX3_on 105 = .ok (.getfield 16, 3) := by decide +kernel
theorem dX3_on_108 : decode cX3_on 108 = .ok (.getfield 113, 3) := by decide +kernel
theorem dX3_on_111 : decode cX3_on 111 = .ok (.iload_n 1, 1) := by decide +kernel
theorem dX3_on_112 : decode cX3_on 112 = .ok (.iaload, 1) := by decide +kernel
theorem dX3_on_113 : decode cX3_on 113 = .ok (.ireturn, 1) := by decide +kernel
theorem dX3_wrong_0 : decode cX3_wrong 0 = .ok (.iload_n 1, 1) := by decide +kernel
theorem dX3_wrong_1 : decode cX3_wrong 1 = .ok (.iconst 0, 1) := by decide +kernel
theorem dX3_wrong_2 : decode cX3_wrong 2 = .ok (.bipush 60, 2) := by decide +kernel
theorem dX3_wrong_4 : decode cX3_wrong 4 = .ok (.invokestatic 44, 3) := by decide +kernel
theorem dX3_wrong_7 : decode cX3_wrong 7 = .ok (.ifCond .eq 10, 3) := by decide +kernel
theorem dX3_wrong_10 : decode cX3_wrong 10 = .ok (.aload_n 0, 1) := by decide +kernel
theorem dX3_wrong_11 : decode cX3_wrong 11 = .ok (.ldc 48, 2) := by decide +kernel
theorem dX3_wrong_13 : decode cX3_wrong 13 = .ok (.invokevirtual 49, 3) := by decide +kernel
theorem dX3_wrong_16 : decode cX3_wrong 16 = .ok (.ireturn, 1) := by decide +kernel
theorem dX3_wrong_17 : decode cX3_wrong 17 = .ok (.aload_n 0, 1) := by decide +kernel
theorem dX3_wrong_18 : decode cX3_wrong 18 = .ok (.getfield 16, 3) := by decide +kernel
theorem dX3_wrong_21 : decode cX3_wrong 21 = .ok (.aload_n 0, 1) := by decide +kernel
theorem dX3_wrong_22 : decode cX3_wrong 22 = .ok (.getfield 10, 3) := by decide +kernel
theorem dX3_wrong_25 : decode cX3_wrong 25 = .ok (.invokevirtual 150, 3) := by decide +kernel
theorem dX3_wrong_28 : decode cX3_wrong 28 = .ok (.aload_n 0, 1) := by decide +kernel
theorem dX3_wrong_29 : decode cX3_wrong 29 = .ok (.getfield 16, 3) := by decide +kernel
theorem dX3_wrong_32 : decode cX3_wrong 32 = .ok (.iload_n 1, 1) := by decide +kernel
theorem dX3_wrong_33 : decode cX3_wrong 33 = .ok (.iconst (-1), 1) := by decide +kernel
theorem dX3_wrong_34 : decode cX3_wrong 34 = .ok (.invokevirtual 143, 3) := by decide +kernel
theorem dX3_wrong_37 : decode cX3_wrong 37 = .ok (.ireturn, 1) := by decide +kernel
theorem dX3_done_0 : decode cX3_done 0 = .ok (.aload_n 0, 1) := by decide +kernel
theorem dX3_done_1 : decode cX3_done 1 = .ok (.ldc2_w 154, 3) := by decide +kernel
theorem dX3_done_4 : decode cX3_done 4 = .ok (.invokevirtual 156, 3) := by decide +kernel
theorem dX3_done_7 : decode cX3_done 7 = .ok (.istore_n 1, 1) := by decide +kernel
theorem dX3_done_8 : decode cX3_done 8 = .ok (.iload_n 1, 1) := by decide +kernel
theorem dX3_done_9 : decode cX3_done 9 = .ok (.ifCond .ge 12, 3) := by decide +kernel
theorem dX3_done_12 : decode cX3_done 12 = .ok (.aload_n 0, 1) := by decide +kernel
theorem dX3_done_13 : decode cX3_done 13 = .ok (.ldc 159, 2) := by decide +kernel
theorem dX3_done_15 : decode cX3_done 15 = .ok (.invokevirtual 49, 3) := by decide +kernel
theorem dX3_done_18 : decode cX3_done 18 = .ok (.goto 4, 3) := by decide +kernel
theorem dX3_done_21 : decode cX3_done 21 = .ok (.iload_n 1, 1) := by decide +kernel
theorem dX3_done_22 : decode cX3_done 22 = .ok (.ireturn, 1) := by decide +kernel
theorem dX3_when_0 : decode cX3_when 0 = .ok (.iload_n 1, 1) := by decide +kernel
theorem dX3_when_1 : decode cX3_when 1 = .ok (.invokestatic 40, 3) := by decide +kernel
theorem dX3_when_4 : decode cX3_when 4 = .ok (.ifCond .eq 10, 3) := by decide +kernel
theorem dX3_when_7 : decode cX3_when 7 = .ok (.aload_n 0, 1) := by decide +kernel
theorem dX3_when_8 : decode cX3_when 8 = .ok (.ldc 48, 2) := by decide +kernel
theorem dX3_when_10 : decode cX3_when 10 = .ok (.invokevirtual 49, 3) := by decide +kernel
theorem dX3_when_13 : decode cX3_when 13 = .ok (.ireturn, 1) := by decide +kernel
theorem dX3_when_14 : decode cX3_when 14 = .ok (.aload_n 0, 1) := by decide +kernel
theorem dX3_when_15 : decode cX3_when 15 = .ok (.lconst 1, 1) := by decide +kernel
theorem dX3_when_16 : decode cX3_when 16 = .ok (.iload_n 1, 1) := by decide +kernel
theorem dX3_when_17 : decode cX3_when 17 = .ok (.lshl, 1) := by decide +kernel
theorem dX3_when_18 : decode cX3_when 18 = .ok (.invokevirtual 156, 3) := by decide +kernel
theorem dX3_when_21 : decode cX3_when 21 = .ok (.istore_n 2, 1) := by decide +kernel
theorem dX3_when_22 : decode cX3_when 22 = .ok (.iload_n 2, 1) := by decide +kernel
theorem dX3_when_23 : decode cX3_when 23 = .ok (.ifCond .ge 12, 3) := by decide +kernel
theorem dX3_when_26 : decode cX3_when 26 = .ok (.aload_n 0, 1) := by decide +kernel
theorem dX3_when_27 : decode cX3_when 27 = .ok (.ldc 159, 2) := by decide +kernel
theorem dX3_when_29 : decode cX3_when 29 = .ok (.invokevirtual 49, 3) := by decide +kernel
theorem dX3_when_32 : decode cX3_when 32 = .ok (.goto 4, 3) := by decide +kernel
theorem dX3_when_35 : decode cX3_when 35 = .ok (.iload_n 2, 1) := by decide +kernel
theorem dX3_when_36 : decode cX3_when 36 = .ok (.ireturn, 1) := by decide +kernel
theorem dX3_cheapest_0 : decode cX3_cheapest 0 = .ok (.aload_n 0, 1) := by decide +kernel
theorem dX3_cheapest_1 : decode cX3_cheapest 1 = .ok (.iload_n 1, 1) := by decide +kernel
theorem dX3_cheapest_2 : decode cX3_cheapest 2 = .ok (.invokevirtual 101, 3) := by decide +kernel
theorem dX3_cheapest_5 : decode cX3_cheapest 5 = .ok (.ifCond .eq 10, 3) := by decide +kernel
theorem dX3_cheapest_8 : decode cX3_cheapest 8 = .ok (.aload_n 0, 1) := by decide +kernel
theorem dX3_cheapest_9 : decode cX3_cheapest 9 = .ok (.ldc 48, 2) := by decide +kernel
theorem dX3_cheapest_11 : decode cX3_cheapest 11 = .ok (.invokevirtual 49, 3) := by decide +kernel
theorem dX3_cheapest_14 : decode cX3_cheapest 14 = .ok (.ireturn, 1) := by decide +kernel
theorem dX3_cheapest_15 : decode cX3_cheapest 15 = .ok (.iconst (-1), 1) := by decide +kernel
theorem dX3_cheapest_16 : decode cX3_cheapest 16 = .ok (.istore_n 2, 1) := by decide +kernel
theorem dX3_cheapest_17 : decode cX3_cheapest 17 = .ok (.iconst 0, 1) := by decide +kernel
theorem dX3_cheapest_18 : decode cX3_cheapest 18 = .ok (.istore_n 3, 1) := by decide +kernel
theorem dX3_cheapest_19 : decode cX3_cheapest 19 = .ok (.iconst 0, 1) := by decide +kernel
theorem dX3_cheapest_20 : decode cX3_cheapest 20 = .ok (.istore 4, 2) := by decide +kernel
theorem dX3_cheapest_22 : decode cX3_cheapest 22 = .ok (.iload 4, 2) := by decide +kernel
theorem dX3_cheapest_24 : decode cX3_cheapest 24 = .ok (.bipush 48, 2) := by decide +kernel
theorem dX3_cheapest_26 : decode cX3_cheapest 26 = .ok (.if_icmp .ge 49, 3) := by decide +kernel
theorem dX3_cheapest_29 : decode cX3_cheapest 29 = .ok (.aload_n 0, 1) := by decide +kernel
theorem dX3_cheapest_30 : decode cX3_cheapest 30 = .ok (.getfield 10, 3) := by decide +kernel
theorem dX3_cheapest_33 : decode cX3_cheapest 33 = .ok (.iload 4, 2) := by decide +kernel
theorem dX3_cheapest_35 : decode cX3_cheapest 35 = .ok (.invokevirtual 63, 3) := by decide +kernel
theorem dX3_cheapest_38 : decode cX3_cheapest 38 = .ok (.ifCond .eq 31, 3) := by decide +kernel
theorem dX3_cheapest_41 : decode cX3_cheapest 41 = .ok (.aload_n 0, 1) := by decide +kernel
theorem dX3_cheapest_42 : decode cX3_cheapest 42 = .ok (.getfield 10, 3) := by decide +kernel
theorem dX3_cheapest_45 : decode cX3_cheapest 45 = .ok (.iload_n 1, 1) := by decide +kernel
theorem dX3_cheapest_46 : decode cX3_cheapest 46 = .ok (.iload 4, 2) := by decide +kernel
theorem dX3_cheapest_48 : decode cX3_cheapest 48 = .ok (.invokevirtual 128, 3) := by decide +kernel
theorem dX3_cheapest_51 : decode cX3_cheapest 51 = .ok (.istore 5, 2) := by decide +kernel
theorem dX3_cheapest_53 : decode cX3_cheapest 53 = .ok (.iload_n 2, 1) := by decide +kernel
theorem dX3_cheapest_54 : decode cX3_cheapest 54 = .ok (.ifCond .lt 9, 3) := by decide +kernel
theorem dX3_cheapest_57 : decode cX3_cheapest 57 = .ok (.iload 5, 2) := by decide +kernel
theorem dX3_cheapest_59 : decode cX3_cheapest 59 = .ok (.iload_n 3, 1) := by decide +kernel
theorem dX3_cheapest_60 : decode cX3_cheapest 60 = .ok (.if_icmp .ge 9, 3) := by decide +kernel
theorem dX3_cheapest_63 : decode cX3_cheapest 63 = .ok (.iload 5, 2) := by decide +kernel
theorem dX3_cheapest_65 : decode cX3_cheapest 65 = .ok (.istore_n 3, 1) := by decide +kernel
theorem dX3_cheapest_66 : decode cX3_cheapest 66 = .ok (.iload 4, 2) := by decide +kernel
theorem dX3_cheapest_68 : decode cX3_cheapest 68 = .ok (.istore_n 2, 1) := by decide +kernel
theorem dX3_cheapest_69 : decode cX3_cheapest 69 = .ok (.iinc 4 1, 3) := by decide +kernel
theorem dX3_cheapest_72 : decode cX3_cheapest 72 = .ok (.goto (-50), 3) := by decide +kernel
theorem dX3_cheapest_75 : decode cX3_cheapest 75 = .ok (.iload_n 2, 1) := by decide +kernel
theorem dX3_cheapest_76 : decode cX3_cheapest 76 = .ok (.ifCond .ge 12, 3) := by decide +kernel
theorem dX3_cheapest_79 : decode cX3_cheapest 79 = .ok (.aload_n 0, 1) := by decide +kernel
theorem dX3_cheapest_80 : decode cX3_cheapest 80 = .ok (.ldc 159, 2) := by decide +kernel
theorem dX3_cheapest_82 : decode cX3_cheapest 82 = .ok (.invokevirtual 49, 3) := by decide +kernel
theorem dX3_cheapest_85 : decode cX3_cheapest 85 = .ok (.goto 4, 3) := by decide +kernel
theorem dX3_cheapest_88 : decode cX3_cheapest 88 = .ok (.iload_n 2, 1) := by decide +kernel
theorem dX3_cheapest_89 : decode cX3_cheapest 89 = .ok (.ireturn, 1) := by decide +kernel
theorem dX3_best_0 : decode cX3_best 0 = .ok (.aload_n 0, 1) := by decide +kernel
theorem dX3_best_1 : decode cX3_best 1 = .ok (.iload_n 1, 1) := by decide +kernel
theorem dX3_best_2 : decode cX3_best 2 = .ok (.invokevirtual 101, 3) := by decide +kernel
theorem dX3_best_5 : decode cX3_best 5 = .ok (.ifCond .eq 10, 3) := by decide +kernel
theorem dX3_best_8 : decode cX3_best 8 = .ok (.aload_n 0, 1) := by decide +kernel
theorem dX3_best_9 : decode cX3_best 9 = .ok (.ldc 48, 2) := by decide +kernel
theorem dX3_best_11 : decode cX3_best 11 = .ok (.invokevirtual 49, 3) := by decide +kernel
theorem dX3_best_14 : decode cX3_best 14 = .ok (.ireturn, 1) := by decide +kernel
theorem dX3_best_15 : decode cX3_best 15 = .ok (.aload_n 0, 1) := by decide +kernel
theorem dX3_best_16 : decode cX3_best 16 = .ok (.getfield 10, 3) := by decide +kernel
theorem dX3_best_19 : decode cX3_best 19 = .ok (.iload_n 1, 1) := by decide +kernel
theorem dX3_best_20 : decode cX3_best 20 = .ok (.invokevirtual 160, 3) := by decide +kernel
theorem dX3_best_23 : decode cX3_best 23 = .ok (.istore_n 2, 1) := by decide +kernel
theorem dX3_best_24 : decode cX3_best 24 = .ok (.iload_n 2, 1) := by decide +kernel
theorem dX3_best_25 : decode cX3_best 25 = .ok (.ifCond .ge 12, 3) := by decide +kernel
theorem dX3_best_28 : decode cX3_best 28 = .ok (.aload_n 0, 1) := by decide +kernel
theorem dX3_best_29 : decode cX3_best 29 = .ok (.ldc 159, 2) := by decide +kernel
theorem dX3_best_31 : decode cX3_best 31 = .ok (.invokevirtual 49, 3) := by decide +kernel
theorem dX3_best_34 : decode cX3_best 34 = .ok (.goto 4, 3) := by decide +kernel
theorem dX3_best_37 : decode cX3_best 37 = .ok (.iload_n 2, 1) := by decide +kernel
theorem dX3_best_38 : decode cX3_best 38 = .ok (.ireturn, 1) := by decide +kernel
theorem dX3_two_0 : decode cX3_two 0 = .ok (.aload_n 0, 1) := by decide +kernel
theorem dX3_two_1 : decode cX3_two 1 = .ok (.iload_n 1, 1) := by decide +kernel
theorem dX3_two_2 : decode cX3_two 2 = .ok (.invokevirtual 101, 3) := by decide +kernel
theorem dX3_two_5 : decode cX3_two 5 = .ok (.ifCond .eq 10, 3) := by decide +kernel
theorem dX3_two_8 : decode cX3_two 8 = .ok (.aload_n 0, 1) := by decide +kernel
theorem dX3_two_9 : decode cX3_two 9 = .ok (.ldc 48, 2) := by decide +kernel
theorem dX3_two_11 : decode cX3_two 11 = .ok (.invokevirtual 49, 3) := by decide +kernel
theorem dX3_two_14 : decode cX3_two 14 = .ok (.ireturn, 1) := by decide +kernel
theorem dX3_two_15 : decode cX3_two 15 = .ok (.aload_n 0, 1) := by decide +kernel
theorem dX3_two_16 : decode cX3_two 16 = .ok (.iload_n 1, 1) := by decide +kernel
theorem dX3_two_17 : decode cX3_two 17 = .ok (.invokevirtual 163, 3) := by decide +kernel
theorem dX3_two_20 : decode cX3_two 20 = .ok (.istore_n 2, 1) := by decide +kernel
theorem dX3_two_21 : decode cX3_two 21 = .ok (.iload_n 2, 1) := by decide +kernel
theorem dX3_two_22 : decode cX3_two 22 = .ok (.ifCond .ge 12, 3) := by decide +kernel
theorem dX3_two_25 : decode cX3_two 25 = .ok (.aload_n 0, 1) := by decide +kernel
theorem dX3_two_26 : decode cX3_two 26 = .ok (.ldc 159, 2) := by decide +kernel
theorem dX3_two_28 : decode cX3_two 28 = .ok (.invokevirtual 49, 3) := by decide +kernel
theorem dX3_two_31 : decode cX3_two 31 = .ok (.goto 4, 3) := by decide +kernel
theorem dX3_two_34 : decode cX3_two 34 = .ok (.iload_n 2, 1) := by decide +kernel
theorem dX3_two_35 : decode cX3_two 35 = .ok (.ireturn, 1) := by decide +kernel
theorem dX3_left_0 : decode cX3_left 0 = .ok (.aload_n 0, 1) := by decide +kernel
theorem dX3_left_1 : decode cX3_left 1 = .ok (.iload_n 1, 1) := by decide +kernel
theorem dX3_left_2 : decode cX3_left 2 = .ok (.invokevirtual 101, 3) := by decide +kernel
theorem dX3_left_5 : decode cX3_left 5 = .ok (.ifCond .eq 10, 3) := by decide +kernel
theorem dX3_left_8 : decode cX3_left 8 = .ok (.aload_n 0, 1) := by decide +kernel
theorem dX3_left_9 : decode cX3_left 9 = .ok (.ldc 48, 2) := by decide +kernel
theorem dX3_left_11 : decode cX3_left 11 = .ok (.invokevirtual 49, 3) := by decide +kernel
theorem dX3_left_14 : decode cX3_left 14 = .ok (.ireturn, 1) := by decide +kernel
theorem dX3_left_15 : decode cX3_left 15 = .ok (.aload_n 0, 1) := by decide +kernel
theorem dX3_left_16 : decode cX3_left 16 = .ok (.iload_n 1, 1) := by decide +kernel
theorem dX3_left_17 : decode cX3_left 17 = .ok (.invokevirtual 163, 3) := by decide +kernel
theorem dX3_left_20 : decode cX3_left 20 = .ok (.istore_n 2, 1) := by decide +kernel
theorem dX3_left_21 : decode cX3_left 21 = .ok (.iload_n 2, 1) := by decide +kernel
theorem dX3_left_22 : decode cX3_left 22 = .ok (.ifCond .ge 10, 3) := by decide +kernel
theorem dX3_left_25 : decode cX3_left 25 = .ok (.aload_n 0, 1) := by decide +kernel
theorem dX3_left_26 : decode cX3_left 26 = .ok (.ldc 159, 2) := by decide +kernel
theorem dX3_left_28 : decode cX3_left 28 = .ok (.invokevirtual 49, 3) := by decide +kernel
theorem dX3_left_31 : decode cX3_left 31 = .ok (.ireturn, 1) := by decide +kernel
theorem dX3_left_32 : decode cX3_left 32 = .ok (.aload_n 0, 1) := by decide +kernel
theorem dX3_left_33 : decode cX3_left 33 = .ok (.getfield 16, 3) := by decide +kernel
theorem dX3_left_36 : decode cX3_left 36 = .ok (.aload_n 0, 1) := by decide +kernel
theorem dX3_left_37 : decode cX3_left 37 = .ok (.getfield 10, 3) := by decide +kernel
theorem dX3_left_40 : decode cX3_left 40 = .ok (.invokevirtual 150, 3) := by decide +kernel
theorem dX3_left_43 : decode cX3_left 43 = .ok (.aload_n 0, 1) := by decide +kernel
theorem dX3_left_44 : decode cX3_left 44 = .ok (.getfield 16, 3) := by decide +kernel
theorem dX3_left_47 : decode cX3_left 47 = .ok (.iload_n 1, 1) := by decide +kernel
theorem dX3_left_48 : decode cX3_left 48 = .ok (.iload_n 2, 1) := by decide +kernel
theorem dX3_left_49 : decode cX3_left 49 = .ok (.bipush 100, 2) := by decide +kernel
theorem dX3_left_51 : decode cX3_left 51 = .ok (.idiv, 1) := by decide +kernel
theorem dX3_left_52 : decode cX3_left 52 = .ok (.invokevirtual 166, 3) := by decide +kernel
theorem dX3_left_55 : decode cX3_left 55 = .ok (.aload_n 0, 1) := by decide +kernel
theorem dX3_left_56 : decode cX3_left 56 = .ok (.getfield 16, 3) := by decide +kernel
theorem dX3_left_59 : decode cX3_left 59 = .ok (.iload_n 1, 1) := by decide +kernel
theorem dX3_left_60 : decode cX3_left 60 = .ok (.iload_n 2, 1) := by decide +kernel
theorem dX3_left_61 : decode cX3_left 61 = .ok (.bipush 100, 2) := by decide +kernel
theorem dX3_left_63 : decode cX3_left 63 = .ok (.irem, 1) := by decide +kernel
theorem dX3_left_64 : decode cX3_left 64 = .ok (.invokevirtual 170, 3) := by decide +kernel
theorem dX3_left_67 : decode cX3_left 67 = .ok (.invokestatic 74, 3) := by decide +kernel
theorem dX3_left_70 : decode cX3_left 70 = .ok (.ireturn, 1) := by decide +kernel
theorem dX3_kind_0 : decode cX3_kind 0 = .ok (.aload_n 0, 1) := by decide +kernel
theorem dX3_kind_1 : decode cX3_kind 1 = .ok (.iload_n 1, 1) := by decide +kernel
theorem dX3_kind_2 : decode cX3_kind 2 = .ok (.invokevirtual 101, 3) := by decide +kernel
theorem dX3_kind_5 : decode cX3_kind 5 = .ok (.ifCond .ne 13, 3) := by decide +kernel
theorem dX3_kind_8 : decode cX3_kind 8 = .ok (.iload_n 2, 1) := by decide +kernel
theorem dX3_kind_9 : decode cX3_kind 9 = .ok (.iconst 0, 1) := by decide +kernel
theorem dX3_kind_10 : decode cX3_kind 10 = .ok (.bipush 60, 2) := by decide +kernel
theorem dX3_kind_12 : decode cX3_kind 12 = .ok (.invokestatic 44, 3) := by decide +kernel
theorem dX3_kind_15 : decode cX3_kind 15 = .ok (.ifCond .eq 10, 3) := by decide +kernel
theorem dX3_kind_18 : decode cX3_kind 18 = .ok (.aload_n 0, 1) := by decide +kernel
theorem dX3_kind_19 : decode cX3_kind 19 = .ok (.ldc 48, 2) := by decide +kernel
theorem dX3_kind_21 : decode cX3_kind 21 = .ok (.invokevirtual 49, 3) := by decide +kernel
theorem dX3_kind_24 : decode cX3_kind 24 = .ok (.ireturn, 1) := by decide +kernel
theorem dX3_kind_25 : decode cX3_kind 25 = .ok (.iconst 0, 1) := by decide +kernel
theorem dX3_kind_26 : decode cX3_kind 26 = .ok (.istore_n 3, 1) := by decide +kernel
theorem dX3_kind_27 : decode cX3_kind 27 = .ok (.bipush 49, 2) := by decide +kernel
theorem dX3_kind_29 : decode cX3_kind 29 = .ok (.istore 4, 2) := by decide +kernel
theorem dX3_kind_31 : decode cX3_kind 31 = .ok (.iconst 0, 1) := by decide +kernel
theorem dX3_kind_32 : decode cX3_kind 32 = .ok (.istore 5, 2) := by decide +kernel
theorem dX3_kind_34 : decode cX3_kind 34 = .ok (.iload 5, 2) := by decide +kernel
theorem dX3_kind_36 : decode cX3_kind 36 = .ok (.bipush 6, 2) := by decide +kernel
theorem dX3_kind_38 : decode cX3_kind 38 = .ok (.if_icmp .ge 56, 3) := by decide +kernel
theorem dX3_kind_41 : decode cX3_kind 41 = .ok (.aload_n 0, 1) := by decide +kernel
theorem dX3_kind_42 : decode cX3_kind 42 = .ok (.getfield 16, 3) := by decide +kernel
theorem dX3_kind_45 : decode cX3_kind 45 = .ok (.aload_n 0, 1) := by decide +kernel
theorem dX3_kind_46 : decode cX3_kind 46 = .ok (.getfield 10, 3) := by decide +kernel
theorem dX3_kind_49 : decode cX3_kind 49 = .ok (.invokevirtual 150, 3) := by decide +kernel
theorem dX3_kind_52 : decode cX3_kind 52 = .ok (.aload_n 0, 1) := by decide +kernel
theorem dX3_kind_53 : decode cX3_kind 53 = .ok (.getfield 16, 3) := by decide +kernel
theorem dX3_kind_56 : decode cX3_kind 56 = .ok (.getfield 104, 3) := by decide +kernel
theorem dX3_kind_59 : decode cX3_kind 59 = .ok (.iload_n 1, 1) := by decide +kernel
theorem dX3_kind_60 : decode cX3_kind 60 = .ok (.iload 5, 2) := by decide +kernel
theorem dX3_kind_62 : decode cX3_kind 62 = .ok (.iastore, 1) := by decide +kernel
theorem dX3_kind_63 : decode cX3_kind 63 = .ok (.aload_n 0, 1) := by decide +kernel
theorem dX3_kind_64 : decode cX3_kind 64 = .ok (.getfield 16, 3) := by decide +kernel
theorem dX3_kind_67 : decode cX3_kind 67 = .ok (.iload_n 2, 1) := by decide +kernel
theorem dX3_kind_68 : decode cX3_kind 68 = .ok (.iconst (-1), 1) := by decide +kernel
theorem dX3_kind_69 : decode cX3_kind 69 = .ok (.invokevirtual 143, 3) := by decide +kernel
theorem dX3_kind_72 : decode cX3_kind 72 = .ok (.istore 6, 2) := by decide +kernel
theorem dX3_kind_74 : decode cX3_kind 74 = .ok (.iload 6, 2) := by decide +kernel
theorem dX3_kind_76 : decode cX3_kind 76 = .ok (.iload 4, 2) := by decide +kernel
theorem dX3_kind_78 : decode cX3_kind 78 = .ok (.if_icmp .ge 10, 3) := by decide +kernel
theorem dX3_kind_81 : decode cX3_kind 81 = .ok (.iload 6, 2) := by decide +kernel
theorem dX3_kind_83 : decode cX3_kind 83 = .ok (.istore 4, 2) := by decide +kernel
theorem dX3_kind_85 : decode cX3_kind 85 = .ok (.iload 5, 2) := by decide +kernel
theorem dX3_kind_87 : decode cX3_kind 87 = .ok (.istore_n 3, 1) := by decide +kernel
theorem dX3_kind_88 : decode cX3_kind 88 = .ok (.iinc 5 1, 3) := by decide +kernel
theorem dX3_kind_91 : decode cX3_kind 91 = .ok (.goto (-57), 3) := by decide +kernel
theorem dX3_kind_94 : decode cX3_kind 94 = .ok (.iload_n 3, 1) := by decide +kernel
theorem dX3_kind_95 : decode cX3_kind 95 = .ok (.ireturn, 1) := by decide +kernel
theorem dX3_purse_0 : decode cX3_purse 0 = .ok (.aload_n 0, 1) := by decide +kernel
theorem dX3_purse_1 : decode cX3_purse 1 = .ok (.iload_n 1, 1) := by decide +kernel
theorem dX3_purse_2 : decode cX3_purse 2 = .ok (.invokevirtual 101, 3) := by decide +kernel
theorem dX3_purse_5 : decode cX3_purse 5 = .ok (.ifCond .ne 13, 3) := by decide +kernel
theorem dX3_purse_8 : decode cX3_purse 8 = .ok (.iload_n 2, 1) := by decide +kernel
theorem dX3_purse_9 : decode cX3_purse 9 = .ok (.iconst 0, 1) := by decide +kernel
theorem dX3_purse_10 : decode cX3_purse 10 = .ok (.bipush 20, 2) := by decide +kernel
theorem dX3_purse_12 : decode cX3_purse 12 = .ok (.invokestatic 44, 3) := by decide +kernel
theorem dX3_purse_15 : decode cX3_purse 15 = .ok (.ifCond .eq 10, 3) := by decide +kernel
theorem dX3_purse_18 : decode cX3_purse 18 = .ok (.aload_n 0, 1) := by decide +kernel
theorem dX3_purse_19 : decode cX3_purse 19 = .ok (.ldc 48, 2) := by decide +kernel
theorem dX3_purse_21 : decode cX3_purse 21 = .ok (.invokevirtual 49, 3) := by decide +kernel
theorem dX3_purse_24 : decode cX3_purse 24 = .ok (.ireturn, 1) := by decide +kernel
theorem dX3_purse_25 : decode cX3_purse 25 = .ok (.aload_n 0, 1) := by decide +kernel
theorem dX3_purse_26 : decode cX3_purse 26 = .ok (.iload_n 1, 1) := by decide +kernel
theorem dX3_purse_27 : decode cX3_purse 27 = .ok (.sipush 255, 3) := by decide +kernel
theorem dX3_purse_30 : decode cX3_purse 30 = .ok (.invokevirtual 174, 3) := by decide +kernel
theorem dX3_purse_33 : decode cX3_purse 33 = .ok (.aload_n 0, 1) := by decide +kernel
theorem dX3_purse_34 : decode cX3_purse 34 = .ok (.getfield 16, 3) := by decide +kernel
theorem dX3_purse_37 : decode cX3_purse 37 = .ok (.iload_n 2, 1) := by decide +kernel
theorem dX3_purse_38 : decode cX3_purse 38 = .ok (.iconst (-1), 1) := by decide +kernel
theorem dX3_purse_39 : decode cX3_purse 39 = .ok (.invokevirtual 143, 3) := by decide +kernel
theorem dX3_purse_42 : decode cX3_purse 42 = .ok (.istore_n 3, 1) := by decide +kernel
theorem dX3_purse_43 : decode cX3_purse 43 = .ok (.iconst 0, 1) := by decide +kernel
theorem dX3_purse_44 : decode cX3_purse 44 = .ok (.istore 4, 2) := by decide +kernel
theorem dX3_purse_46 : decode cX3_purse 46 = .ok (.iload 4, 2) := by decide +kernel
theorem dX3_purse_48 : decode cX3_purse 48 = .ok (.sipush 255, 3) := by decide +kernel
theorem dX3_purse_51 : decode cX3_purse 51 = .ok (.if_icmp .ge 32, 3) := by decide +kernel
theorem dX3_purse_54 : decode cX3_purse 54 = .ok (.aload_n 0, 1) := by decide +kernel
theorem dX3_purse_55 : decode cX3_purse 55 = .ok (.iload_n 1, 1) := by decide +kernel
theorem dX3_purse_56 : decode cX3_purse 56 = .ok (.iload 4, 2) := by decide +kernel
theorem dX3_purse_58 : decode cX3_purse 58 = .ok (.invokevirtual 174, 3) := by decide +kernel
theorem dX3_purse_61 : decode cX3_purse 61 = .ok (.aload_n 0, 1) := by decide +kernel
theorem dX3_purse_62 : decode cX3_purse 62 = .ok (.getfield 16, 3) := by decide +kernel
theorem dX3_purse_65 : decode cX3_purse 65 = .ok (.iload_n 2, 1) := by decide +kernel
theorem dX3_purse_66 : decode cX3_purse 66 = .ok (.iconst (-1), 1) := by decide +kernel
theorem dX3_purse_67 : decode cX3_purse 67 = .ok (.invokevirtual 143, 3) := by decide +kernel
theorem dX3_purse_70 : decode cX3_purse 70 = .ok (.iload_n 3, 1) := by decide +kernel
theorem dX3_purse_71 : decode cX3_purse 71 = .ok (.if_icmp .gt 6, 3) := by decide +kernel
theorem dX3_purse_74 : decode cX3_purse 74 = .ok (.iload 4, 2) := by decide +kernel
theorem dX3_purse_76 : decode cX3_purse 76 = .ok (.ireturn, 1) := by decide +kernel
theorem dX3_purse_77 : decode cX3_purse 77 = .ok (.iinc 4 1, 3) := by decide +kernel
theorem dX3_purse_80 : decode cX3_purse 80 = .ok (.goto (-34), 3) := by decide +kernel
theorem dX3_purse_83 : decode cX3_purse 83 = .ok (.sipush 255, 3) := by decide +kernel
theorem dX3_purse_86 : decode cX3_purse 86 = .ok (.ireturn, 1) := by decide +kernel
theorem dX3_needed_0 : decode cX3_needed 0 = .ok (.iload_n 1, 1) := by decide +kernel
theorem dX3_needed_1 : decode cX3_needed 1 = .ok (.iconst 0, 1) := by decide +kernel
theorem dX3_needed_2 : decode cX3_needed 2 = .ok (.bipush 60, 2) := by decide +kernel
theorem dX3_needed_4 : decode cX3_needed 4 = .ok (.invokestatic 44, 3) := by decide +kernel
theorem dX3_needed_7 : decode cX3_needed 7 = .ok (.ifCond .eq 10, 3) := by decide +kernel
theorem dX3_needed_10 : decode cX3_needed 10 = .ok (.aload_n 0, 1) := by decide +kernel
theorem dX3_needed_11 : decode cX3_needed 11 = .ok (.ldc 48, 2) := by decide +kernel
theorem dX3_needed_13 : decode cX3_needed 13 = .ok (.invokevirtual 49, 3) := by decide +kernel
theorem dX3_needed_16 : decode cX3_needed 16 = .ok (.ireturn, 1) := by decide +kernel
theorem dX3_needed_17 : decode cX3_needed 17 = .ok (.iconst (-1), 1) := by decide +kernel
theorem dX3_needed_18 : decode cX3_needed 18 = .ok (.istore_n 2, 1) := by decide +kernel
theorem dX3_needed_19 : decode cX3_needed 19 = .ok (.iconst (-1), 1) := by decide +kernel
theorem dX3_needed_20 : decode cX3_needed 20 = .ok (.istore_n 3, 1) := by decide +kernel
theorem dX3_needed_21 : decode cX3_needed 21 = .ok (.iconst 0, 1) := by decide +kernel
theorem dX3_needed_22 : decode cX3_needed 22 = .ok (.istore 4, 2) := by decide +kernel
theorem dX3_needed_24 : decode cX3_needed 24 = .ok (.iload 4, 2) := by decide +kernel
theorem dX3_needed_26 : decode cX3_needed 26 = .ok (.aload_n 0, 1) := by decide +kernel
theorem dX3_needed_27 : decode cX3_needed 27 = .ok (.getfield 10, 3) := by decide +kernel
theorem dX3_needed_30 : decode cX3_needed 30 = .ok (.getfield 94, 3) := by decide +kernel
theorem dX3_needed_33 : decode cX3_needed 33 = .ok (.if_icmp .ge 44, 3) := by decide +kernel
theorem dX3_needed_36 : decode cX3_needed 36 = .ok (.aload_n 0, 1) := by decide +kernel
theorem dX3_needed_37 : decode cX3_needed 37 = .ok (.getfield 16, 3) := by decide +kernel
theorem dX3_needed_40 : decode cX3_needed 40 = .ok (.aload_n 0, 1) := by decide +kernel
theorem dX3_needed_41 : decode cX3_needed 41 = .ok (.getfield 10, 3) := by decide +kernel
theorem dX3_needed_44 : decode cX3_needed 44 = .ok (.invokevirtual 150, 3) := by decide +kernel
theorem dX3_needed_47 : decode cX3_needed 47 = .ok (.aload_n 0, 1) := by decide +kernel
theorem dX3_needed_48 : decode cX3_needed 48 = .ok (.getfield 16, 3) := by decide +kernel
theorem dX3_needed_51 : decode cX3_needed 51 = .ok (.iload_n 1, 1) := by decide +kernel
theorem dX3_needed_52 : decode cX3_needed 52 = .ok (.iload 4, 2) := by decide +kernel
theorem dX3_needed_54 : decode cX3_needed 54 = .ok (.invokevirtual 143, 3) := by decide +kernel
theorem dX3_needed_57 : decode cX3_needed 57 = .ok (.istore 5, 2) := by decide +kernel
theorem dX3_needed_59 : decode cX3_needed 59 = .ok (.iload 5, 2) := by decide +kernel
theorem dX3_needed_61 : decode cX3_needed 61 = .ok (.iload_n 3, 1) := by decide +kernel
theorem dX3_needed_62 : decode cX3_needed 62 = .ok (.if_icmp .le 9, 3) := by decide +kernel
theorem dX3_needed_65 : decode cX3_needed 65 = .ok (.iload 5, 2) := by decide +kernel
theorem dX3_needed_67 : decode cX3_needed 67 = .ok (.istore_n 3, 1) := by decide +kernel
theorem dX3_needed_68 : decode cX3_needed 68 = .ok (.iload 4, 2) := by decide +kernel
theorem dX3_needed_70 : decode cX3_needed 70 = .ok (.istore_n 2, 1) := by decide +kernel
theorem dX3_needed_71 : decode cX3_needed 71 = .ok (.iinc 4 1, 3) := by decide +kernel
theorem dX3_needed_74 : decode cX3_needed 74 = .ok (.goto (-50), 3) := by decide +kernel
theorem dX3_needed_77 : decode cX3_needed 77 = .ok (.iload_n 2, 1) := by decide +kernel
theorem dX3_needed_78 : decode cX3_needed 78 = .ok (.iconst (-1), 1) := by decide +kernel
theorem dX3_needed_79 : decode cX3_needed 79 = .ok (.if_icmp .ne 12, 3) := by decide +kernel
theorem dX3_needed_82 : decode cX3_needed 82 = .ok (.aload_n 0, 1) := by decide +kernel
theorem dX3_needed_83 : decode cX3_needed 83 = .ok (.ldc 159, 2) := by decide +kernel
theorem dX3_needed_85 : decode cX3_needed 85 = .ok (.invokevirtual 49, 3) := by decide +kernel
theorem dX3_needed_88 : decode cX3_needed 88 = .ok (.goto 4, 3) := by decide +kernel
theorem dX3_needed_91 : decode cX3_needed 91 = .ok (.iload_n 2, 1) := by decide +kernel
theorem dX3_needed_92 : decode cX3_needed 92 = .ok (.ireturn, 1) := by decide +kernel
theorem dX3_way_0 : decode cX3_way 0 = .ok (.iload_n 1, 1) := by decide +kernel
theorem dX3_way_1 : decode cX3_way 1 = .ok (.invokestatic 40, 3) := by decide +kernel
theorem dX3_way_4 : decode cX3_way 4 = .ok (.ifCond .ne 19, 3) := by decide +kernel
theorem dX3_way_7 : decode cX3_way 7 = .ok (.iload_n 2, 1) := by decide +kernel
theorem dX3_way_8 : decode cX3_way 8 = .ok (.invokestatic 40, 3) := by decide +kernel
theorem dX3_way_11 : decode cX3_way 11 = .ok (.ifCond .ne 12, 3) := by decide +kernel
theorem dX3_way_14 : decode cX3_way 14 = .ok (.iload_n 3, 1) := by decide +kernel
theorem dX3_way_15 : decode cX3_way 15 = .ok (.iconst 0, 1) := by decide +kernel
theorem dX3_way_16 : decode cX3_way 16 = .ok (.iconst 1, 1) := by decide +kernel
theorem dX3_way_17 : decode cX3_way 17 = .ok (.invokestatic 44, 3) := by decide +kernel
theorem dX3_way_20 : decode cX3_way 20 = .ok (.ifCond .eq 10, 3) := by decide +kernel
theorem dX3_way_23 : decode cX3_way 23 = .ok (.aload_n 0, 1) := by decide +kernel
theorem dX3_way_24 : decode cX3_way 24 = .ok (.ldc 48, 2) := by decide +kernel
theorem dX3_way_26 : decode cX3_way 26 = .ok (.invokevirtual 49, 3) := by decide +kernel
theorem dX3_way_29 : decode cX3_way 29 = .ok (.ireturn, 1) := by decide +kernel
theorem dX3_way_30 : decode cX3_way 30 = .ok (.iload_n 3, 1) := by decide +kernel
theorem dX3_way_31 : decode cX3_way 31 = .ok (.ifCond .ne 22, 3) := by decide +kernel
theorem dX3_way_34 : decode cX3_way 34 = .ok (.ldc2_w 154, 3) := by decide +kernel
theorem dX3_way_37 : decode cX3_way 37 = .ok (.aload_n 0, 1) := by decide +kernel
theorem dX3_way_38 : decode cX3_way 38 = .ok (.getfield 10, 3) := by decide +kernel
theorem dX3_way_41 : decode cX3_way 41 = .ok (.iconst 1, 1) := by decide +kernel
theorem dX3_way_42 : decode cX3_way 42 = .ok (.invokevirtual 83, 3) := by decide +kernel
theorem dX3_way_45 : decode cX3_way 45 = .ok (.ldc2_w 177, 3) := by decide +kernel
theorem dX3_way_48 : decode cX3_way 48 = .ok (.lxor, 1) := by decide +kernel
theorem dX3_way_49 : decode cX3_way 49 = .ok (.land, 1) := by decide +kernel
theorem dX3_way_50 : decode cX3_way 50 = .ok (.goto 20, 3) := by decide +kernel
theorem dX3_way_53 : decode cX3_way 53 = .ok (.aload_n 0, 1) := by decide +kernel
theorem dX3_way_54 : decode cX3_way 54 = .ok (.getfield 10, 3) := by decide +kernel
theorem dX3_way_57 : decode cX3_way 57 = .ok (.iconst 5, 1) := by decide +kernel
theorem dX3_way_58 : decode cX3_way 58 = .ok (.invokevirtual 83, 3) := by decide +kernel
theorem dX3_way_61 : decode cX3_way 61 = .ok (.aload_n 0, 1) := by decide +kernel
theorem dX3_way_62 : decode cX3_way 62 = .ok (.getfield 10, 3) := by decide +kernel
theorem dX3_way_65 : decode cX3_way 65 = .ok (.iconst 3, 1) := by decide +kernel
theorem dX3_way_66 : decode cX3_way 66 = .ok (.invokevirtual 83, 3) := by decide +kernel
theorem dX3_way_69 : decode cX3_way 69 = .ok (.lor, 1) := by decide +kernel
theorem dX3_way_70 : decode cX3_way 70 = .ok (.lstore 4, 2) := by decide +kernel
theorem dX3_way_72 : decode cX3_way 72 = .ok (.lconst 1, 1) := by decide +kernel
theorem dX3_way_73 : decode cX3_way 73 = .ok (.iload_n 2, 1) := by decide +kernel
theorem dX3_way_74 : decode cX3_way 74 = .ok (.lshl, 1) := by decide +kernel
theorem dX3_way_75 : decode cX3_way 75 = .ok (.lstore 6, 2) := by decide +kernel
theorem dX3_way_77 : decode cX3_way 77 = .ok (.lconst 1, 1) := by decide +kernel
theorem dX3_way_78 : decode cX3_way 78 = .ok (.iload_n 1, 1) := by decide +kernel
theorem dX3_way_79 : decode cX3_way 79 = .ok (.lshl, 1) := by decide +kernel
theorem dX3_way_80 : decode cX3_way 80 = .ok (.lload 4, 2) := by decide +kernel
theorem dX3_way_82 : decode cX3_way 82 = .ok (.land, 1) := by decide +kernel
theorem dX3_way_83 : decode cX3_way 83 = .ok (.lstore 8, 2) := by decide +kernel
theorem dX3_way_85 : decode cX3_way 85 = .ok (.iconst 0, 1) := by decide +kernel
theorem dX3_way_86 : decode cX3_way 86 = .ok (.istore 10, 2) := by decide +kernel
theorem dX3_way_88 : decode cX3_way 88 = .ok (.iload 10, 2) := by decide +kernel
theorem dX3_way_90 : decode cX3_way 90 = .ok (.bipush 48, 2) := by decide +kernel
theorem dX3_way_92 : decode cX3_way 92 = .ok (.if_icmp .ge 35, 3) := by decide +kernel
theorem dX3_way_95 : decode cX3_way 95 = .ok (.lload 8, 2) := by decide +kernel
theorem dX3_way_97 : decode cX3_way 97 = .ok (.lload 6, 2) := by decide +kernel
theorem dX3_way_99 : decode cX3_way 99 = .ok (.land, 1) := by decide +kernel
theorem dX3_way_100 : decode cX3_way 100 = .ok (.lconst 0, 1) := by decide +kernel
theorem dX3_way_101 : decode cX3_way 101 = .ok (.lcmp, 1) := by decide +kernel
theorem dX3_way_102 : decode cX3_way 102 = .ok (.ifCond .eq 6, 3) := by decide +kernel
theorem dX3_way_105 : decode cX3_way 105 = .ok (.iload 10, 2) := by decide +kernel
theorem dX3_way_107 : decode cX3_way 107 = .ok (.ireturn, 1) := by decide +kernel
theorem dX3_way_108 : decode cX3_way 108 = .ok (.lload 8, 2) := by decide +kernel
theorem dX3_way_110 : decode cX3_way 110 = .ok (.lload 8, 2) := by decide +kernel
theorem dX3_way_112 : decode cX3_way 112 = .ok (.invokestatic 70, 3) := by decide +kernel
theorem dX3_way_115 : decode cX3_way 115 = .ok (.lload 4, 2) := by decide +kernel
theorem dX3_way_117 : decode cX3_way 117 = .ok (.land, 1) := by decide +kernel
theorem dX3_way_118 : decode cX3_way 118 = .ok (.lor, 1) := by decide +kernel
theorem dX3_way_119 : decode cX3_way 119 = .ok (.lstore 8, 2) := by decide +kernel
theorem dX3_way_121 : decode cX3_way 121 = .ok (.iinc 10 1, 3) := by decide +kernel
theorem dX3_way_124 : decode cX3_way 124 = .ok (.goto (-36), 3) := by decide +kernel
theorem dX3_way_127 : decode cX3_way 127 = .ok (.aload_n 0, 1) := by decide +kernel
theorem dX3_way_128 : decode cX3_way 128 = .ok (.ldc 159, 2) := by decide +kernel
theorem dX3_way_130 : decode cX3_way 130 = .ok (.invokevirtual 49, 3) := by decide +kernel
theorem dX3_way_133 : decode cX3_way 133 = .ok (.ireturn, 1) := by decide +kernel
theorem dX3_feed_0 : decode cX3_feed 0 = .ok (.iload_n 2, 1) := by decide +kernel
theorem dX3_feed_1 : decode cX3_feed 1 = .ok (.iconst 1, 1) := by decide +kernel
theorem dX3_feed_2 : decode cX3_feed 2 = .ok (.iconst 4, 1) := by decide +kernel
theorem dX3_feed_3 : decode cX3_feed 3 = .ok (.invokestatic 44, 3) := by decide +kernel
theorem dX3_feed_6 : decode cX3_feed 6 = .ok (.ifCond .eq 10, 3) := by decide +kernel
theorem dX3_feed_9 : decode cX3_feed 9 = .ok (.aload_n 0, 1) := by decide +kernel
theorem dX3_feed_10 : decode cX3_feed 10 = .ok (.ldc 48, 2) := by decide +kernel
theorem dX3_feed_12 : decode cX3_feed 12 = .ok (.invokevirtual 49, 3) := by decide +kernel
theorem dX3_feed_15 : decode cX3_feed 15 = .ok (.ireturn, 1) := by decide +kernel
theorem dX3_feed_16 : decode cX3_feed 16 = .ok (.aload_n 0, 1) := by decide +kernel
theorem dX3_feed_17 : decode cX3_feed 17 = .ok (.getfield 25, 3) := by decide +kernel
theorem dX3_feed_20 : decode cX3_feed 20 = .ok (.getfield 179, 3) := by decide +kernel
theorem dX3_feed_23 : decode cX3_feed 23 = .ok (.iload_n 2, 1) := by decide +kernel
theorem dX3_feed_24 : decode cX3_feed 24 = .ok (.iadd, 1) := by decide +kernel
theorem dX3_feed_25 : decode cX3_feed 25 = .ok (.bipush 120, 2) := by decide +kernel
theorem dX3_feed_27 : decode cX3_feed 27 = .ok (.if_icmp .le 10, 3) := by decide +kernel
theorem dX3_feed_30 : decode cX3_feed 30 = .ok (.aload_n 0, 1) := by decide +kernel
theorem dX3_feed_31 : decode cX3_feed 31 = .ok (.ldc 97, 2) := by decide +kernel
theorem dX3_feed_33 : decode cX3_feed 33 = .ok (.invokevirtual 49, 3) := by decide +kernel
theorem dX3_feed_36 : decode cX3_feed 36 = .ok (.ireturn, 1) := by decide +kernel
theorem dX3_feed_37 : decode cX3_feed 37 = .ok (.iload_n 2, 1) := by decide +kernel
theorem dX3_feed_38 : decode cX3_feed 38 = .ok (.iconst 1, 1) := by decide +kernel
theorem dX3_feed_39 : decode cX3_feed 39 = .ok (.isub, 1) := by decide +kernel
theorem dX3_feed_40 : decode cX3_feed 40 = .ok (.istore_n 3, 1) := by decide +kernel
theorem dX3_feed_41 : decode cX3_feed 41 = .ok (.iload_n 3, 1) := by decide +kernel
theorem dX3_feed_42 : decode cX3_feed 42 = .ok (.ifCond .lt 47, 3) := by decide +kernel
theorem dX3_feed_45 : decode cX3_feed 45 = .ok (.aload_n 0, 1) := by decide +kernel
theorem dX3_feed_46 : decode cX3_feed 46 = .ok (.getfield 25, 3) := by decide +kernel
theorem dX3_feed_49 : decode cX3_feed 49 = .ok (.getfield 182, 3) := by decide +kernel
theorem dX3_feed_52 : decode cX3_feed 52 = .ok (.aload_n 0, 1) := by decide +kernel
theorem dX3_feed_53 : decode cX3_feed 53 = .ok (.getfield 25, 3) := by decide +kernel
theorem dX3_feed_56 : decode cX3_feed 56 = .ok (.getfield 179, 3) := by decide +kernel
theorem dX3_feed_59 : decode cX3_feed 59 = .ok (.iload_n 1, 1) := by decide +kernel
theorem dX3_feed_60 : decode cX3_feed 60 = .ok (.bipush 8, 2) := by decide +kernel
theorem dX3_feed_62 : decode cX3_feed 62 = .ok (.iload_n 3, 1) := by decide +kernel
theorem dX3_feed_63 : decode cX3_feed 63 = .ok (.imul, 1) := by decide +kernel
theorem dX3_feed_64 : decode cX3_feed 64 = .ok (.iushr, 1) := by decide +kernel
theorem dX3_feed_65 : decode cX3_feed 65 = .ok (.sipush 255, 3) := by decide +kernel
theorem dX3_feed_68 : decode cX3_feed 68 = .ok (.iand, 1) := by decide +kernel
theorem dX3_feed_69 : decode cX3_feed 69 = .ok (.iastore, 1) := by decide +kernel
theorem dX3_feed_70 : decode cX3_feed 70 = .ok (.aload_n 0, 1) := by decide +kernel
theorem dX3_feed_71 : decode cX3_feed 71 = .ok (.getfield 25, 3) := by decide +kernel
theorem dX3_feed_74 : decode cX3_feed 74 = .ok (.dup, 1) := by decide +kernel
theorem dX3_feed_75 : decode cX3_feed 75 = .ok (.getfield 179, 3) := by decide +kernel
theorem dX3_feed_78 : decode cX3_feed 78 = .ok (.iconst 1, 1) := by decide +kernel
theorem dX3_feed_79 : decode cX3_feed 79 = .ok (.iadd, 1) := by decide +kernel
theorem dX3_feed_80 : decode cX3_feed 80 = .ok (.putfield 179, 3) := by decide +kernel
theorem dX3_feed_83 : decode cX3_feed 83 = .ok (.iinc 3 (-1), 3) := by decide +kernel
theorem dX3_feed_86 : decode cX3_feed 86 = .ok (.goto (-45), 3) := by decide +kernel
theorem dX3_feed_89 : decode cX3_feed 89 = .ok (.aload_n 0, 1) := by decide +kernel
theorem dX3_feed_90 : decode cX3_feed 90 = .ok (.getfield 25, 3) := by decide +kernel
theorem dX3_feed_93 : decode cX3_feed 93 = .ok (.getfield 179, 3) := by decide +kernel
theorem dX3_feed_96 : decode cX3_feed 96 = .ok (.ireturn, 1) := by decide +kernel
theorem dX3_wipe_0 : decode cX3_wipe 0 = .ok (.aload_n 0, 1) := by decide +kernel
theorem dX3_wipe_1 : decode cX3_wipe 1 = .ok (.getfield 25, 3) := by decide +kernel
theorem dX3_wipe_4 : decode cX3_wipe 4 = .ok (.getfield 179, 3) := by decide +kernel
theorem dX3_wipe_7 : decode cX3_wipe 7 = .ok (.istore_n 1, 1) := by decide +kernel
theorem dX3_wipe_8 : decode cX3_wipe 8 = .ok (.aload_n 0, 1) := by decide +kernel
theorem dX3_wipe_9 : decode cX3_wipe 9 = .ok (.getfield 25, 3) := by decide +kernel
theorem dX3_wipe_12 : decode cX3_wipe 12 = .ok (.iconst 0, 1) := by decide +kernel
theorem dX3_wipe_13 : decode cX3_wipe 13 = .ok (.putfield 179, 3) := by decide +kernel
theorem dX3_wipe_16 : decode cX3_wipe 16 = .ok (.iload_n 1, 1) := by decide +kernel
theorem dX3_wipe_17 : decode cX3_wipe 17 = .ok (.ireturn, 1) := by decide +kernel
theorem dX3_map_0 : decode cX3_map 0 = .ok (.aload_n 0, 1) := by decide +kernel
theorem dX3_map_1 : decode cX3_map 1 = .ok (.getfield 16, 3) := by decide +kernel
theorem dX3_map_4 : decode cX3_map 4 = .ok (.aload_n 0, 1) := by decide +kernel
theorem dX3_map_5 : decode cX3_map 5 = .ok (.getfield 10, 3) := by decide +kernel
theorem dX3_map_8 : decode cX3_map 8 = .ok (.invokevirtual 150, 3) := by decide +kernel
theorem dX3_map_11 : decode cX3_map 11 = .ok (.aload_n 0, 1) := by decide +kernel
theorem dX3_map_12 : decode cX3_map 12 = .ok (.getfield 25, 3) := by decide +kernel
theorem dX3_map_15 : decode cX3_map 15 = .ok (.aload_n 0, 1) := by decide +kernel
theorem dX3_map_16 : decode cX3_map 16 = .ok (.getfield 16, 3) := by decide +kernel
theorem dX3_map_19 : decode cX3_map 19 = .ok (.invokevirtual 185, 3) := by decide +kernel
theorem dX3_map_22 : decode cX3_map 22 = .ok (.istore_n 1, 1) := by decide +kernel
theorem dX3_map_23 : decode cX3_map 23 = .ok (.iload_n 1, 1) := by decide +kernel
theorem dX3_map_24 : decode cX3_map 24 = .ok (.ifCond .le 14, 3) := by decide +kernel
theorem dX3_map_27 : decode cX3_map 27 = .ok (.aload_n 0, 1) := by decide +kernel
theorem dX3_map_28 : decode cX3_map 28 = .ok (.getfield 10, 3) := by decide +kernel
theorem dX3_map_31 : decode cX3_map 31 = .ok (.aload_n 0, 1) := by decide +kernel
theorem dX3_map_32 : decode cX3_map 32 = .ok (.getfield 16, 3) := by decide +kernel
theorem dX3_map_35 : decode cX3_map 35 = .ok (.invokevirtual 150, 3) := by decide +kernel
theorem dX3_map_38 : decode cX3_map 38 = .ok (.aload_n 0, 1) := by decide +kernel
theorem dX3_map_39 : decode cX3_map 39 = .ok (.getfield 25, 3) := by decide +kernel
theorem dX3_map_42 : decode cX3_map 42 = .ok (.iconst 0, 1) := by decide +kernel
theorem dX3_map_43 : decode cX3_map 43 = .ok (.putfield 179, 3) := by decide +kernel
theorem dX3_map_46 : decode cX3_map 46 = .ok (.iload_n 1, 1) := by decide +kernel
theorem dX3_map_47 : decode cX3_map 47 = .ok (.ireturn, 1) := by decide +kernel
theorem dX3_sheet_0 : decode cX3_sheet 0 = .ok (.iload_n 1, 1) := by decide +kernel
theorem dX3_sheet_1 : decode cX3_sheet 1 = .ok (.invokestatic 189, 3) := by decide +kernel
theorem dX3_sheet_4 : decode cX3_sheet 4 = .ok (.ifCond .ne 25, 3) := by decide +kernel
theorem dX3_sheet_7 : decode cX3_sheet 7 = .ok (.iload_n 2, 1) := by decide +kernel
theorem dX3_sheet_8 : decode cX3_sheet 8 = .ok (.ifCond .eq 28, 3) := by decide +kernel
theorem dX3_sheet_11 : decode cX3_sheet 11 = .ok (.iload_n 2, 1) := by decide +kernel
theorem dX3_sheet_12 : decode cX3_sheet 12 = .ok (.bipush 8, 2) := by decide +kernel
theorem dX3_sheet_14 : decode cX3_sheet 14 = .ok (.if_icmp .eq 22, 3) := by decide +kernel
theorem dX3_sheet_17 : decode cX3_sheet 17 = .ok (.iload_n 2, 1) := by decide +kernel
theorem dX3_sheet_18 : decode cX3_sheet 18 = .ok (.bipush 16, 2) := by decide +kernel
theorem dX3_sheet_20 : decode cX3_sheet 20 = .ok (.if_icmp .eq 16, 3) := by decide +kernel
theorem dX3_sheet_23 : decode cX3_sheet 23 = .ok (.iload_n 2, 1) := by decide +kernel
theorem dX3_sheet_24 : decode cX3_sheet 24 = .ok (.bipush 64, 2) := by decide +kernel
theorem dX3_sheet_26 : decode cX3_sheet 26 = .ok (.if_icmp .eq 10, 3) := by decide +kernel
theorem dX3_sheet_29 : decode cX3_sheet 29 = .ok (.aload_n 0, 1) := by decide +kernel
theorem dX3_sheet_30 : decode cX3_sheet 30 = .ok (.ldc 48, 2) := by decide +kernel
theorem dX3_sheet_32 : decode cX3_sheet 32 = .ok (.invokevirtual 49, 3) := by decide +kernel
theorem dX3_sheet_35 : decode cX3_sheet 35 = .ok (.ireturn, 1) := by decide +kernel
theorem dX3_sheet_36 : decode cX3_sheet 36 = .ok (.iload_n 3, 1) := by decide +kernel
theorem dX3_sheet_37 : decode cX3_sheet 37 = .ok (.ifCond .ge 10, 3) := by decide +kernel
theorem dX3_sheet_40 : decode cX3_sheet 40 = .ok (.aload_n 0, 1) := by decide +kernel
theorem dX3_sheet_41 : decode cX3_sheet 41 = .ok (.ldc 192, 2) := by decide +kernel
theorem dX3_sheet_43 : decode cX3_sheet 43 = .ok (.invokevirtual 49, 3) := by decide +kernel
theorem dX3_sheet_46 : decode cX3_sheet 46 = .ok (.ireturn, 1) := by decide +kernel
theorem dX3_sheet_47 : decode cX3_sheet 47 = .ok (.iload_n 3, 1) := by decide +kernel
theorem dX3_sheet_48 : decode cX3_sheet 48 = .ok (.bipush 40, 2) := by decide +kernel
theorem dX3_sheet_50 : decode cX3_sheet 50 = .ok (.if_icmp .le 10, 3) := by decide +kernel
theorem dX3_sheet_53 : decode cX3_sheet 53 = .ok (.aload_n 0, 1) := by decide +kernel
theorem dX3_sheet_54 : decode cX3_sheet 54 = .ok (.ldc 48, 2) := by decide +kernel
theorem dX3_sheet_56 : decode cX3_sheet 56 = .ok (.invokevirtual 49, 3) := by decide +kernel
theorem dX3_sheet_59 : decode cX3_sheet 59 = .ok (.ireturn, 1) := by decide +kernel
theorem dX3_sheet_60 : decode cX3_sheet 60 = .ok (.aload_n 0, 1) := by decide +kernel
theorem dX3_sheet_61 : decode cX3_sheet 61 = .ok (.getfield 31, 3) := by decide +kernel
theorem dX3_sheet_64 : decode cX3_sheet 64 = .ok (.iload_n 1, 1) := by decide +kernel
theorem dX3_sheet_65 : decode cX3_sheet 65 = .ok (.aaload, 1) := by decide +kernel
theorem dX3_sheet_66 : decode cX3_sheet 66 = .ok (.iload_n 2, 1) := by decide +kernel
theorem dX3_sheet_67 : decode cX3_sheet 67 = .ok (.iload_n 3, 1) := by decide +kernel
theorem dX3_sheet_68 : decode cX3_sheet 68 = .ok (.invokevirtual 193, 3) := by decide +kernel
theorem dX3_sheet_71 : decode cX3_sheet 71 = .ok (.aload_n 0, 1) := by decide +kernel
theorem dX3_sheet_72 : decode cX3_sheet 72 = .ok (.getfield 31, 3) := by decide +kernel
theorem dX3_sheet_75 : decode cX3_sheet 75 = .ok (.iload_n 1, 1) := by decide +kernel
theorem dX3_sheet_76 : decode cX3_sheet 76 = .ok (.aaload, 1) := by decide +kernel
theorem dX3_sheet_77 : decode cX3_sheet 77 = .ok (.getfield 196, 3) := by decide +kernel
theorem dX3_sheet_80 : decode cX3_sheet 80 = .ok (.ireturn, 1) := by decide +kernel
theorem dX3_write_0 : decode cX3_write 0 = .ok (.iload_n 1, 1) := by decide +kernel
theorem dX3_write_1 : decode cX3_write 1 = .ok (.invokestatic 189, 3) := by decide +kernel
theorem dX3_write_4 : decode cX3_write 4 = .ok (.ifCond .eq 11, 3) := by decide +kernel
theorem dX3_write_7 : decode cX3_write 7 = .ok (.aload_n 0, 1) := by decide +kernel
theorem dX3_write_8 : decode cX3_write 8 = .ok (.ldc 48, 2) := by decide +kernel
theorem dX3_write_10 : decode cX3_write 10 = .ok (.invokevirtual 49, 3) := by decide +kernel
theorem dX3_write_13 : decode cX3_write 13 = .ok (.i2l, 1) := by decide +kernel
theorem dX3_write_14 : decode cX3_write 14 = .ok (.lreturn, 1) := by decide +kernel
theorem dX3_write_15 : decode cX3_write 15 = .ok (.aload_n 0, 1) := by decide +kernel
theorem dX3_write_16 : decode cX3_write 16 = .ok (.getfield 31, 3) := by decide +kernel
theorem dX3_write_19 : decode cX3_write 19 = .ok (.iload_n 1, 1) := by decide +kernel
theorem dX3_write_20 : decode cX3_write 20 = .ok (.aaload, 1) := by decide +kernel
theorem dX3_write_21 : decode cX3_write 21 = .ok (.invokevirtual 199, 3) := by decide +kernel
theorem dX3_write_24 : decode cX3_write 24 = .ok (.ifCond .eq 11, 3) := by decide +kernel
theorem dX3_write_27 : decode cX3_write 27 = .ok (.aload_n 0, 1) := by decide +kernel
theorem dX3_write_28 : decode cX3_write 28 = .ok (.ldc 203, 2) := by decide +kernel
theorem dX3_write_30 : decode cX3_write 30 = .ok (.invokevirtual 49, 3) := by decide +kernel
theorem dX3_write_33 : decode cX3_write 33 = .ok (.i2l, 1) := by decide +kernel
theorem dX3_write_34 : decode cX3_write 34 = .ok (.lreturn, 1) := by decide +kernel
theorem dX3_write_35 : decode cX3_write 35 = .ok (.iload_n 2, 1) := by decide +kernel
theorem dX3_write_36 : decode cX3_write 36 = .ok (.iconst 0, 1) := by decide +kernel
theorem dX3_write_37 : decode cX3_write 37 = .ok (.aload_n 0, 1) := by decide +kernel
theorem dX3_write_38 : decode cX3_write 38 = .ok (.getfield 31, 3) := by decide +kernel
theorem dX3_write_41 : decode cX3_write 41 = .ok (.iload_n 1, 1) := by decide +kernel
theorem dX3_write_42 : decode cX3_write 42 = .ok (.aaload, 1) := by decide +kernel
theorem dX3_write_43 : decode cX3_write 43 = .ok (.getfield 196, 3) := by decide +kernel
theorem dX3_write_46 : decode cX3_write 46 = .ok (.iconst 1, 1) := by decide +kernel
theorem dX3_write_47 : decode cX3_write 47 = .ok (.isub, 1) := by decide +kernel
theorem dX3_write_48 : decode cX3_write 48 = .ok (.invokestatic 44, 3) := by decide +kernel
theorem dX3_write_51 : decode cX3_write 51 = .ok (.ifCond .eq 11, 3) := by decide +kernel
theorem dX3_write_54 : decode cX3_write 54 = .ok (.aload_n 0, 1) := by decide +kernel
theorem dX3_write_55 : decode cX3_write 55 = .ok (.ldc 48, 2) := by decide +kernel
theorem dX3_write_57 : decode cX3_write 57 = .ok (.invokevirtual 49, 3) := by decide +kernel
theorem dX3_write_60 : decode cX3_write 60 = .ok (.i2l, 1) := by decide +kernel
theorem dX3_write_61 : decode cX3_write 61 = .ok (.lreturn, 1) := by decide +kernel
theorem dX3_write_62 : decode cX3_write 62 = .ok (.aload_n 0, 1) := by decide +kernel
theorem dX3_write_63 : decode cX3_write 63 = .ok (.getfield 31, 3) := by decide +kernel
theorem dX3_write_66 : decode cX3_write 66 = .ok (.iload_n 1, 1) := by decide +kernel
theorem dX3_write_67 : decode cX3_write 67 = .ok (.aaload, 1) := by decide +kernel
theorem dX3_write_68 : decode cX3_write 68 = .ok (.iload_n 2, 1) := by decide +kernel
theorem dX3_write_69 : decode cX3_write 69 = .ok (.lload_n 3, 1) := by decide +kernel
theorem dX3_write_70 : decode cX3_write 70 = .ok (.invokevirtual 204, 3) := by decide +kernel
theorem dX3_write_73 : decode cX3_write 73 = .ok (.lreturn, 1) := by decide +kernel
theorem dX3_copy_0 : decode cX3_copy 0 = .ok (.iload_n 1, 1) := by decide +kernel
theorem dX3_copy_1 : decode cX3_copy 1 = .ok (.invokestatic 189, 3) := by decide +kernel
theorem dX3_copy_4 : decode cX3_copy 4 = .ok (.ifCond .ne 10, 3) := by decide +kernel
theorem dX3_copy_7 : decode cX3_copy 7 = .ok (.iload_n 3, 1) := by decide +kernel
theorem dX3_copy_8 : decode cX3_copy 8 = .ok (.invokestatic 189, 3) := by decide +kernel
theorem dX3_copy_11 : decode cX3_copy 11 = .ok (.ifCond .eq 10, 3) := by decide +kernel
theorem dX3_copy_14 : decode cX3_copy 14 = .ok (.aload_n 0, 1) := by decide +kernel
theorem dX3_copy_15 : decode cX3_copy 15 = .ok (.ldc 48, 2) := by decide +kernel
theorem dX3_copy_17 : decode cX3_copy 17 = .ok (.invokevirtual 49, 3) := by decide +kernel
theorem dX3_copy_20 : decode cX3_copy 20 = .ok (.ireturn, 1) := by decide +kernel
theorem dX3_copy_21 : decode cX3_copy 21 = .ok (.aload_n 0, 1) := by decide +kernel
theorem dX3_copy_22 : decode cX3_copy 22 = .ok (.getfield 31, 3) := by decide +kernel
theorem dX3_copy_25 : decode cX3_copy 25 = .ok (.iload_n 1, 1) := by decide +kernel
theorem dX3_copy_26 : decode cX3_copy 26 = .ok (.aaload, 1) := by decide +kernel
theorem dX3_copy_27 : decode cX3_copy 27 = .ok (.astore 6, 2) := by decide +kernel
theorem dX3_copy_29 : decode cX3_copy 29 = .ok (.aload_n 0, 1) := by decide +kernel
theorem dX3_copy_30 : decode cX3_copy 30 = .ok (.getfield 31, 3) := by decide +kernel
theorem dX3_copy_33 : decode cX3_copy 33 = .ok (.iload_n 3, 1) := by decide +kernel
theorem dX3_copy_34 : decode cX3_copy 34 = .ok (.aaload, 1) := by decide +kernel
theorem dX3_copy_35 : decode cX3_copy 35 = .ok (.astore 7, 2) := by decide +kernel
theorem dX3_copy_37 : decode cX3_copy 37 = .ok (.aload 6, 2) := by decide +kernel
theorem dX3_copy_39 : decode cX3_copy 39 = .ok (.invokevirtual 199, 3) := by decide +kernel
theorem dX3_copy_42 : decode cX3_copy 42 = .ok (.ifCond .ne 11, 3) := by decide +kernel
theorem dX3_copy_45 : decode cX3_copy 45 = .ok (.aload 7, 2) := by decide +kernel
theorem dX3_copy_47 : decode cX3_copy 47 = .ok (.invokevirtual 199, 3) := by decide +kernel
theorem dX3_copy_50 : decode cX3_copy 50 = .ok (.ifCond .eq 10, 3) := by decide +kernel
theorem dX3_copy_53 : decode cX3_copy 53 = .ok (.aload_n 0, 1) := by decide +kernel
theorem dX3_copy_54 : decode cX3_copy 54 = .ok (.ldc 203, 2) := by decide +kernel
theorem dX3_copy_56 : decode cX3_copy 56 = .ok (.invokevirtual 49, 3) := by decide +kernel
theorem dX3_copy_59 : decode cX3_copy 59 = .ok (.ireturn, 1) := by decide +kernel
theorem dX3_copy_60 : decode cX3_copy 60 = .ok (.aload 6, 2) := by decide +kernel
theorem dX3_copy_62 : decode cX3_copy 62 = .ok (.getfield 208, 3) := by decide +kernel
theorem dX3_copy_65 : decode cX3_copy 65 = .ok (.aload 7, 2) := by decide +kernel
theorem dX3_copy_67 : decode cX3_copy 67 = .ok (.getfield 208, 3) := by decide +kernel
theorem dX3_copy_70 : decode cX3_copy 70 = .ok (.if_icmp .eq 10, 3) := by decide +kernel
theorem dX3_copy_73 : decode cX3_copy 73 = .ok (.aload_n 0, 1) := by decide +kernel
theorem dX3_copy_74 : decode cX3_copy 74 = .ok (.ldc 126, 2) := by decide +kernel
theorem dX3_copy_76 : decode cX3_copy 76 = .ok (.invokevirtual 49, 3) := by decide +kernel
theorem dX3_copy_79 : decode cX3_copy 79 = .ok (.ireturn, 1) := by decide +kernel
theorem dX3_copy_80 : decode cX3_copy 80 = .ok (.aload 6, 2) := by decide +kernel
theorem dX3_copy_82 : decode cX3_copy 82 = .ok (.iload_n 2, 1) := by decide +kernel
theorem dX3_copy_83 : decode cX3_copy 83 = .ok (.iload 5, 2) := by decide +kernel
theorem dX3_copy_85 : decode cX3_copy 85 = .ok (.invokevirtual 211, 3) := by decide +kernel
theorem dX3_copy_88 : decode cX3_copy 88 = .ok (.ifCond .eq 15, 3) := by decide +kernel
theorem dX3_copy_91 : decode cX3_copy 91 = .ok (.aload 7, 2) := by decide +kernel
theorem dX3_copy_93 : decode cX3_copy 93 = .ok (.iload 4, 2) := by decide +kernel
theorem dX3_copy_95 : decode cX3_copy 95 = .ok (.iload 5, 2) := by decide +kernel
theorem dX3_copy_97 : decode cX3_copy 97 = .ok (.invokevirtual 211, 3) := by decide +kernel
theorem dX3_copy_100 : decode cX3_copy 100 = .ok (.ifCond .ne 10, 3) := by decide +kernel
theorem dX3_copy_103 : decode cX3_copy 103 = .ok (.aload_n 0, 1) := by decide +kernel
theorem dX3_copy_104 : decode cX3_copy 104 = .ok (.ldc 48, 2) := by decide +kernel
theorem dX3_copy_106 : decode cX3_copy 106 = .ok (.invokevirtual 49, 3) := by decide +kernel
theorem dX3_copy_109 : decode cX3_copy 109 = .ok (.ireturn, 1) := by decide +kernel
theorem dX3_copy_110 : decode cX3_copy 110 = .ok (.aload 6, 2) := by decide +kernel
theorem dX3_copy_112 : decode cX3_copy 112 = .ok (.getfield 214, 3) := by decide +kernel
theorem dX3_copy_115 : decode cX3_copy 115 = .ok (.iload_n 2, 1) := by decide +kernel
theorem dX3_copy_116 : decode cX3_copy 116 = .ok (.aload 7, 2) := by decide +kernel
theorem dX3_copy_118 : decode cX3_copy 118 = .ok (.getfield 214, 3) := by decide +kernel
theorem dX3_copy_121 : decode cX3_copy 121 = .ok (.iload 4, 2) := by decide +kernel
theorem dX3_copy_123 : decode cX3_copy 123 = .ok (.iload 5, 2) := by decide +kernel
theorem dX3_copy_125 : decode cX3_copy 125 = .ok (.invokestatic 218, 3) := by decide +kernel
theorem dX3_copy_128 : decode cX3_copy 128 = .ok (.iload 5, 2) := by decide +kernel
theorem dX3_copy_130 : decode cX3_copy 130 = .ok (.ireturn, 1) := by decide +kernel
theorem dX3_lays_0 : decode cX3_lays 0 = .ok (.iload_n 1, 1) := by decide +kernel
theorem dX3_lays_1 : decode cX3_lays 1 = .ok (.invokestatic 189, 3) := by decide +kernel
theorem dX3_lays_4 : decode cX3_lays 4 = .ok (.ifCond .eq 10, 3) := by decide +kernel
theorem dX3_lays_7 : decode cX3_lays 7 = .ok (.aload_n 0, 1) := by decide +kernel
theorem dX3_lays_8 : decode cX3_lays 8 = .ok (.ldc 48, 2) := by decide +kernel
theorem dX3_lays_10 : decode cX3_lays 10 = .ok (.invokevirtual 49, 3) := by decide +kernel
theorem dX3_lays_13 : decode cX3_lays 13 = .ok (.ireturn, 1) := by decide +kernel
theorem dX3_lays_14 : decode cX3_lays 14 = .ok (.aload_n 0, 1) := by decide +kernel
theorem dX3_lays_15 : decode cX3_lays 15 = .ok (.getfield 31, 3) := by decide +kernel
theorem dX3_lays_18 : decode cX3_lays 18 = .ok (.iload_n 1, 1) := by decide +kernel
theorem dX3_lays_19 : decode cX3_lays 19 = .ok (.aaload, 1) := by decide +kernel
theorem dX3_lays_20 : decode cX3_lays 20 = .ok (.astore_n 2, 1) := by decide +kernel
theorem dX3_lays_21 : decode cX3_lays 21 = .ok (.aload_n 2, 1) := by decide +kernel
theorem dX3_lays_22 : decode cX3_lays 22 = .ok (.invokevirtual 199, 3) := by decide +kernel
theorem dX3_lays_25 : decode cX3_lays 25 = .ok (.ifCond .eq 10, 3) := by decide +kernel
theorem dX3_lays_28 : decode cX3_lays 28 = .ok (.aload_n 0, 1) := by decide +kernel
theorem dX3_lays_29 : decode cX3_lays 29 = .ok (.ldc 203, 2) := by decide +kernel
theorem dX3_lays_31 : decode cX3_lays 31 = .ok (.invokevirtual 49, 3) := by decide +kernel
theorem dX3_lays_34 : decode cX3_lays 34 = .ok (.ireturn, 1) := by decide +kernel
theorem dX3_lays_35 : decode cX3_lays 35 = .ok (.iconst 0, 1) := by decide +kernel
theorem dX3_lays_36 : decode cX3_lays 36 = .ok (.istore_n 3, 1) := by decide +kernel
theorem dX3_lays_37 : decode cX3_lays 37 = .ok (.iconst 0, 1) := by decide +kernel
theorem dX3_lays_38 : decode cX3_lays 38 = .ok (.istore 4, 2) := by decide +kernel
theorem dX3_lays_40 : decode cX3_lays 40 = .ok (.iload 4, 2) := by decide +kernel
theorem dX3_lays_42 : decode cX3_lays 42 = .ok (.aload_n 2, 1) := by decide +kernel
theorem dX3_lays_43 : decode cX3_lays 43 = .ok (.getfield 196, 3) := by decide +kernel
theorem dX3_lays_46 : decode cX3_lays 46 = .ok (.if_icmp .ge 51, 3) := by decide +kernel
theorem dX3_lays_49 : decode cX3_lays 49 = .ok (.aload_n 2, 1) := by decide +kernel
theorem dX3_lays_50 : decode cX3_lays 50 = .ok (.getfield 214, 3) := by decide +kernel
theorem dX3_lays_53 : decode cX3_lays 53 = .ok (.iload 4, 2) := by decide +kernel
theorem dX3_lays_55 : decode cX3_lays 55 = .ok (.laload, 1) := by decide +kernel
theorem dX3_lays_56 : decode cX3_lays 56 = .ok (.lstore 5, 2) := by decide +kernel
theorem dX3_lays_58 : decode cX3_lays 58 = .ok (.lload 5, 2) := by decide +kernel
theorem dX3_lays_60 : decode cX3_lays 60 = .ok (.lconst 0, 1) := by decide +kernel
theorem dX3_lays_61 : decode cX3_lays 61 = .ok (.lcmp, 1) := by decide +kernel
theorem dX3_lays_62 : decode cX3_lays 62 = .ok (.ifCond .lt 29, 3) := by decide +kernel
theorem dX3_lays_65 : decode cX3_lays 65 = .ok (.lload 5, 2) := by decide +kernel
theorem dX3_lays_67 : decode cX3_lays 67 = .ok (.ldc2_w 224, 3) := by decide +kernel
theorem dX3_lays_70 : decode cX3_lays 70 = .ok (.lcmp, 1) := by decide +kernel
theorem dX3_lays_71 : decode cX3_lays 71 = .ok (.ifCond .ge 20, 3) := by decide +kernel
theorem dX3_lays_74 : decode cX3_lays 74 = .ok (.aload_n 0, 1) := by decide +kernel
theorem dX3_lays_75 : decode cX3_lays 75 = .ok (.getfield 10, 3) := by decide +kernel
theorem dX3_lays_78 : decode cX3_lays 78 = .ok (.iconst 1, 1) := by decide +kernel
theorem dX3_lays_79 : decode cX3_lays 79 = .ok (.iload 4, 2) := by decide +kernel
theorem dX3_lays_81 : decode cX3_lays 81 = .ok (.lload 5, 2) := by decide +kernel
theorem dX3_lays_83 : decode cX3_lays 83 = .ok (.l2i, 1) := by decide +kernel
theorem dX3_lays_84 : decode cX3_lays 84 = .ok (.invokevirtual 53, 3) := by decide +kernel
theorem dX3_lays_87 : decode cX3_lays 87 = .ok (.pop, 1) := by decide +kernel
theorem dX3_lays_88 : decode cX3_lays 88 = .ok (.iinc 3 1, 3) := by decide +kernel
theorem dX3_lays_91 : decode cX3_lays 91 = .ok (.iinc 4 1, 3) := by decide +kernel
theorem dX3_lays_94 : decode cX3_lays 94 = .ok (.goto (-54), 3) := by decide +kernel
theorem dX3_lays_97 : decode cX3_lays 97 = .ok (.iload_n 3, 1) := by decide +kernel
theorem dX3_lays_98 : decode cX3_lays 98 = .ok (.ireturn, 1) := by decide +kernel
theorem dX3_book_0 : decode cX3_book 0 = .ok (.iload_n 1, 1) := by decide +kernel
theorem dX3_book_1 : decode cX3_book 1 = .ok (.invokestatic 189, 3) := by decide +kernel
theorem dX3_book_4 : decode cX3_book 4 = .ok (.ifCond .eq 10, 3) := by decide +kernel
theorem dX3_book_7 : decode cX3_book 7 = .ok (.aload_n 0, 1) := by decide +kernel
theorem dX3_book_8 : decode cX3_book 8 = .ok (.ldc 48, 2) := by decide +kernel
theorem dX3_book_10 : decode cX3_book 10 = .ok (.invokevirtual 49, 3) := by decide +kernel
theorem dX3_book_13 : decode cX3_book 13 = .ok (.ireturn, 1) := by decide +kernel
theorem dX3_book_14 : decode cX3_book 14 = .ok (.aload_n 0, 1) := by decide +kernel
theorem dX3_book_15 : decode cX3_book 15 = .ok (.getfield 31, 3) := by decide +kernel
theorem dX3_book_18 : decode cX3_book 18 = .ok (.iload_n 1, 1) := by decide +kernel
theorem dX3_book_19 : decode cX3_book 19 = .ok (.aaload, 1) := by decide +kernel
theorem dX3_book_20 : decode cX3_book 20 = .ok (.astore_n 2, 1) := by decide +kernel
theorem dX3_book_21 : decode cX3_book 21 = .ok (.aload_n 2, 1) := by decide +kernel
theorem dX3_book_22 : decode cX3_book 22 = .ok (.invokevirtual 199, 3) := by decide +kernel
theorem dX3_book_25 : decode cX3_book 25 = .ok (.ifCond .eq 10, 3) := by decide +kernel
theorem dX3_book_28 : decode cX3_book 28 = .ok (.aload_n 0, 1) := by decide +kernel
theorem dX3_book_29 : decode cX3_book 29 = .ok (.ldc 203, 2) := by decide +kernel
theorem dX3_book_31 : decode cX3_book 31 = .ok (.invokevirtual 49, 3) := by decide +kernel
theorem dX3_book_34 : decode cX3_book 34 = .ok (.ireturn, 1) := by decide +kernel
theorem dX3_book_35 : decode cX3_book 35 = .ok (.aload_n 0, 1) := by decide +kernel
theorem dX3_book_36 : decode cX3_book 36 = .ok (.getfield 16, 3) := by decide +kernel
theorem dX3_book_39 : decode cX3_book 39 = .ok (.aload_n 0, 1) := by decide +kernel
theorem dX3_book_40 : decode cX3_book 40 = .ok (.getfield 10, 3) := by decide +kernel
theorem dX3_book_43 : decode cX3_book 43 = .ok (.invokevirtual 150, 3) := by decide +kernel
theorem dX3_book_46 : decode cX3_book 46 = .ok (.iconst 0, 1) := by decide +kernel
theorem dX3_book_47 : decode cX3_book 47 = .ok (.istore_n 3, 1) := by decide +kernel
theorem dX3_book_48 : decode cX3_book 48 = .ok (.iload_n 3, 1) := by decide +kernel
theorem dX3_book_49 : decode cX3_book 49 = .ok (.aload_n 2, 1) := by decide +kernel
theorem dX3_book_50 : decode cX3_book 50 = .ok (.getfield 196, 3) := by decide +kernel
theorem dX3_book_53 : decode cX3_book 53 = .ok (.if_icmp .ge 33, 3) := by decide +kernel
theorem dX3_book_56 : decode cX3_book 56 = .ok (.aload_n 2, 1) := by decide +kernel
theorem dX3_book_57 : decode cX3_book 57 = .ok (.iload_n 3, 1) := by decide +kernel
theorem dX3_book_58 : decode cX3_book 58 = .ok (.aload_n 0, 1) := by decide +kernel
theorem dX3_book_59 : decode cX3_book 59 = .ok (.getfield 16, 3) := by decide +kernel
theorem dX3_book_62 : decode cX3_book 62 = .ok (.invokevirtual 136, 3) := by decide +kernel
theorem dX3_book_65 : decode cX3_book 65 = .ok (.i2l, 1) := by decide +kernel
theorem dX3_book_66 : decode cX3_book 66 = .ok (.invokevirtual 204, 3) := by decide +kernel
theorem dX3_book_69 : decode cX3_book 69 = .ok (.pop2, 1) := by decide +kernel
theorem dX3_book_70 : decode cX3_book 70 = .ok (.aload_n 0, 1) := by decide +kernel
theorem dX3_book_71 : decode cX3_book 71 = .ok (.getfield 16, 3) := by decide +kernel
theorem dX3_book_74 : decode cX3_book 74 = .ok (.iconst 1, 1) := by decide +kernel
theorem dX3_book_75 : decode cX3_book 75 = .ok (.iconst (-1), 1) := by decide +kernel
theorem dX3_book_76 : decode cX3_book 76 = .ok (.invokevirtual 143, 3) := by decide +kernel
theorem dX3_book_79 : decode cX3_book 79 = .ok (.pop, 1) := by decide +kernel
theorem dX3_book_80 : decode cX3_book 80 = .ok (.iinc 3 1, 3) := by decide +kernel
theorem dX3_book_83 : decode cX3_book 83 = .ok (.goto (-35), 3) := by decide +kernel
theorem dX3_book_86 : decode cX3_book 86 = .ok (.aload_n 2, 1) := by decide +kernel
theorem dX3_book_87 : decode cX3_book 87 = .ok (.getfield 196, 3) := by decide +kernel
theorem dX3_book_90 : decode cX3_book 90 = .ok (.ireturn, 1) := by decide +kernel
theorem dX3_read_0 : decode cX3_read 0 = .ok (.iload_n 1, 1) := by decide +kernel
theorem dX3_read_1 : decode cX3_read 1 = .ok (.invokestatic 189, 3) := by decide +kernel
theorem dX3_read_4 : decode cX3_read 4 = .ok (.ifCond .eq 10, 3) := by decide +kernel
theorem dX3_read_7 : decode cX3_read 7 = .ok (.aload_n 0, 1) := by decide +kernel
theorem dX3_read_8 : decode cX3_read 8 = .ok (.ldc 48, 2) := by decide +kernel
theorem dX3_read_10 : decode cX3_read 10 = .ok (.invokevirtual 49, 3) := by decide +kernel
theorem dX3_read_13 : decode cX3_read 13 = .ok (.ireturn, 1) := by decide +kernel
theorem dX3_read_14 : decode cX3_read 14 = .ok (.aload_n 0, 1) := by decide +kernel
theorem dX3_read_15 : decode cX3_read 15 = .ok (.getfield 31, 3) := by decide +kernel
theorem dX3_read_18 : decode cX3_read 18 = .ok (.iload_n 1, 1) := by decide +kernel
theorem dX3_read_19 : decode cX3_read 19 = .ok (.aaload, 1) := by decide +kernel
theorem dX3_read_20 : decode cX3_read 20 = .ok (.invokevirtual 199, 3) := by decide +kernel
theorem dX3_read_23 : decode cX3_read 23 = .ok (.ifCond .eq 10, 3) := by decide +kernel
theorem dX3_read_26 : decode cX3_read 26 = .ok (.aload_n 0, 1) := by decide +kernel
theorem dX3_read_27 : decode cX3_read 27 = .ok (.ldc 203, 2) := by decide +kernel
theorem dX3_read_29 : decode cX3_read 29 = .ok (.invokevirtual 49, 3) := by decide +kernel
theorem dX3_read_32 : decode cX3_read 32 = .ok (.ireturn, 1) := by decide +kernel
theorem dX3_read_33 : decode cX3_read 33 = .ok (.aload_n 0, 1) := by decide +kernel
theorem dX3_read_34 : decode cX3_read 34 = .ok (.iload_n 2, 1) := by decide +kernel
theorem dX3_read_35 : decode cX3_read 35 = .ok (.invokevirtual 101, 3) := by decide +kernel
theorem dX3_read_38 : decode cX3_read 38 = .ok (.ifCond .eq 10, 3) := by decide +kernel
theorem dX3_read_41 : decode cX3_read 41 = .ok (.aload_n 0, 1) := by decide +kernel
theorem dX3_read_42 : decode cX3_read 42 = .ok (.ldc 48, 2) := by decide +kernel
theorem dX3_read_44 : decode cX3_read 44 = .ok (.invokevirtual 49, 3) := by decide +kernel
theorem dX3_read_47 : decode cX3_read 47 = .ok (.ireturn, 1) := by decide +kernel
theorem dX3_read_48 : decode cX3_read 48 = .ok (.iconst 0, 1) := by decide +kernel
theorem dX3_read_49 : decode cX3_read 49 = .ok (.istore_n 3, 1) := by decide +kernel
theorem dX3_read_50 : decode cX3_read 50 = .ok (.iconst 0, 1) := by decide +kernel
theorem dX3_read_51 : decode cX3_read 51 = .ok (.istore 4, 2) := by decide +kernel
theorem dX3_read_53 : decode cX3_read 53 = .ok (.iload 4, 2) := by decide +kernel
theorem dX3_read_55 : decode cX3_read 55 = .ok (.bipush 6, 2) := by decide +kernel
theorem dX3_read_57 : decode cX3_read 57 = .ok (.if_icmp .ge 74, 3) := by decide +kernel
theorem dX3_read_60 : decode cX3_read 60 = .ok (.iconst 0, 1) := by decide +kernel
theorem dX3_read_61 : decode cX3_read 61 = .ok (.istore 5, 2) := by decide +kernel
theorem dX3_read_63 : decode cX3_read 63 = .ok (.iload 5, 2) := by decide +kernel
theorem dX3_read_65 : decode cX3_read 65 = .ok (.bipush 48, 2) := by decide +kernel
theorem dX3_read_67 : decode cX3_read 67 = .ok (.if_icmp .ge 58, 3) := by decide +kernel
theorem dX3_read_70 : decode cX3_read 70 = .ok (.aload_n 0, 1) := by decide +kernel
theorem dX3_read_71 : decode cX3_read 71 = .ok (.getfield 16, 3) := by decide +kernel
theorem dX3_read_74 : decode cX3_read 74 = .ok (.aload_n 0, 1) := by decide +kernel
theorem dX3_read_75 : decode cX3_read 75 = .ok (.getfield 10, 3) := by decide +kernel
theorem dX3_read_78 : decode cX3_read 78 = .ok (.invokevirtual 150, 3) := by decide +kernel
theorem dX3_read_81 : decode cX3_read 81 = .ok (.aload_n 0, 1) := by decide +kernel
theorem dX3_read_82 : decode cX3_read 82 = .ok (.getfield 16, 3) := by decide +kernel
theorem dX3_read_85 : decode cX3_read 85 = .ok (.getfield 104, 3) := by decide +kernel
theorem dX3_read_88 : decode cX3_read 88 = .ok (.iload_n 2, 1) := by decide +kernel
theorem dX3_read_89 : decode cX3_read 89 = .ok (.iload 4, 2) := by decide +kernel
theorem dX3_read_91 : decode cX3_read 91 = .ok (.iastore, 1) := by decide +kernel
theorem dX3_read_92 : decode cX3_read 92 = .ok (.aload_n 0, 1) := by decide +kernel
theorem dX3_read_93 : decode cX3_read 93 = .ok (.getfield 16, 3) := by decide +kernel
theorem dX3_read_96 : decode cX3_read 96 = .ok (.getfield 107, 3) := by decide +kernel
theorem dX3_read_99 : decode cX3_read 99 = .ok (.iload_n 2, 1) := by decide +kernel
theorem dX3_read_100 : decode cX3_read 100 = .ok (.iload 5, 2) := by decide +kernel
theorem dX3_read_102 : decode cX3_read 102 = .ok (.iastore, 1) := by decide +kernel
theorem dX3_read_103 : decode cX3_read 103 = .ok (.aload_n 0, 1) := by decide +kernel
theorem dX3_read_104 : decode cX3_read 104 = .ok (.aload_n 0, 1) := by decide +kernel
theorem dX3_read_105 : decode cX3_read 105 = .ok (.getfield 31, 3) := by decide +kernel
theorem dX3_read_108 : decode cX3_read 108 = .ok (.iload_n 1, 1) := by decide +kernel
theorem dX3_read_109 : decode cX3_read 109 = .ok (.aaload, 1) := by decide +kernel
theorem dX3_read_110 : decode cX3_read 110 = .ok (.invokevirtual 226, 3) := by decide +kernel
theorem dX3_read_113 : decode cX3_read 113 = .ok (.ifCond .eq 6, 3) := by decide +kernel
theorem dX3_read_116 : decode cX3_read 116 = .ok (.iinc 3 1, 3) := by decide +kernel
theorem dX3_read_119 : decode cX3_read 119 = .ok (.iinc 5 1, 3) := by decide +kernel
theorem dX3_read_122 : decode cX3_read 122 = .ok (.goto (-59), 3) := by decide +kernel
theorem dX3_read_125 : decode cX3_read 125 = .ok (.iinc 4 1, 3) := by decide +kernel
theorem dX3_read_128 : decode cX3_read 128 = .ok (.goto (-75), 3) := by decide +kernel
theorem dX3_read_131 : decode cX3_read 131 = .ok (.iload_n 3, 1) := by decide +kernel
theorem dX3_read_132 : decode cX3_read 132 = .ok (.ireturn, 1) := by decide +kernel
theorem dX3_image_0 : decode cX3_image 0 = .ok (.aload_n 0, 1) := by decide +kernel
theorem dX3_image_1 : decode cX3_image 1 = .ok (.getfield 19, 3) := by decide +kernel
theorem dX3_image_4 : decode cX3_image 4 = .ok (.aload_n 0, 1) := by decide +kernel
theorem dX3_image_5 : decode cX3_image 5 = .ok (.getfield 10, 3) := by decide +kernel
theorem dX3_image_8 : decode cX3_image 8 = .ok (.invokevirtual 150, 3) := by decide +kernel
theorem dX3_image_11 : decode cX3_image 11 = .ok (.aload_n 0, 1) := by decide +kernel
theorem dX3_image_12 : decode cX3_image 12 = .ok (.iconst 1, 1) := by decide +kernel
theorem dX3_image_13 : decode cX3_image 13 = .ok (.putfield 230, 3) := by decide +kernel
theorem dX3_image_16 : decode cX3_image 16 = .ok (.iconst 1, 1) := by decide +kernel
theorem dX3_image_17 : decode cX3_image 17 = .ok (.ireturn, 1) := by decide +kernel
theorem dX3_undo_0 : decode cX3_undo 0 = .ok (.aload_n 0, 1) := by decide +kernel
theorem dX3_undo_1 : decode cX3_undo 1 = .ok (.getfield 230, 3) := by decide +kernel
theorem dX3_undo_4 : decode cX3_undo 4 = .ok (.ifCond .ne 10, 3) := by decide +kernel
theorem dX3_undo_7 : decode cX3_undo 7 = .ok (.aload_n 0, 1) := by decide +kernel
theorem dX3_undo_8 : decode cX3_undo 8 = .ok (.ldc 159, 2) := by decide +kernel
theorem dX3_undo_10 : decode cX3_undo 10 = .ok (.invokevirtual 49, 3) := by decide +kernel
theorem dX3_undo_13 : decode cX3_undo 13 = .ok (.ireturn, 1) := by decide +kernel
theorem dX3_undo_14 : decode cX3_undo 14 = .ok (.aload_n 0, 1) := by decide +kernel
theorem dX3_undo_15 : decode cX3_undo 15 = .ok (.getfield 10, 3) := by decide +kernel
theorem dX3_undo_18 : decode cX3_undo 18 = .ok (.aload_n 0, 1) := by decide +kernel
theorem dX3_undo_19 : decode cX3_undo 19 = .ok (.getfield 19, 3) := by decide +kernel
theorem dX3_undo_22 : decode cX3_undo 22 = .ok (.invokevirtual 150, 3) := by decide +kernel
theorem dX3_undo_25 : decode cX3_undo 25 = .ok (.aload_n 0, 1) := by decide +kernel
theorem dX3_undo_26 : decode cX3_undo 26 = .ok (.getfield 10, 3) := by decide +kernel
theorem dX3_undo_29 : decode cX3_undo 29 = .ok (.getfield 94, 3) := by decide +kernel
theorem dX3_undo_32 : decode cX3_undo 32 = .ok (.ireturn, 1) := by decide +kernel
theorem dX3_tear_0 : decode cX3_tear 0 = .ok (.aload_n 0, 1) := by decide +kernel
theorem dX3_tear_1 : decode cX3_tear 1 = .ok (.getfield 230, 3) := by decide +kernel
theorem dX3_tear_4 : decode cX3_tear 4 = .ok (.ifCond .eq 7, 3) := by decide +kernel
theorem dX3_tear_7 : decode cX3_tear 7 = .ok (.iconst 1, 1) := by decide +kernel
theorem dX3_tear_8 : decode cX3_tear 8 = .ok (.goto 4, 3) := by decide +kernel
theorem dX3_tear_11 : decode cX3_tear 11 = .ok (.iconst 0, 1) := by decide +kernel
theorem dX3_tear_12 : decode cX3_tear 12 = .ok (.istore_n 1, 1) := by decide +kernel
theorem dX3_tear_13 : decode cX3_tear 13 = .ok (.aload_n 0, 1) := by decide +kernel
theorem dX3_tear_14 : decode cX3_tear 14 = .ok (.iconst 0, 1) := by decide +kernel
theorem dX3_tear_15 : decode cX3_tear 15 = .ok (.putfield 230, 3) := by decide +kernel
theorem dX3_tear_18 : decode cX3_tear 18 = .ok (.iload_n 1, 1) := by decide +kernel
theorem dX3_tear_19 : decode cX3_tear 19 = .ok (.ireturn, 1) := by decide +kernel
theorem dX3_count_0 : decode cX3_count 0 = .ok (.iload_n 1, 1) := by decide +kernel
theorem dX3_count_1 : decode cX3_count 1 = .ok (.iconst 0, 1) := by decide +kernel
theorem dX3_count_2 : decode cX3_count 2 = .ok (.iconst 3, 1) := by decide +kernel
theorem dX3_count_3 : decode cX3_count 3 = .ok (.invokestatic 44, 3) := by decide +kernel
theorem dX3_count_6 : decode cX3_count 6 = .ok (.ifCond .eq 10, 3) := by decide +kernel
theorem dX3_count_9 : decode cX3_count 9 = .ok (.aload_n 0, 1) := by decide +kernel
theorem dX3_count_10 : decode cX3_count 10 = .ok (.ldc 48, 2) := by decide +kernel
theorem dX3_count_12 : decode cX3_count 12 = .ok (.invokevirtual 49, 3) := by decide +kernel
theorem dX3_count_15 : decode cX3_count 15 = .ok (.ireturn, 1) := by decide +kernel
theorem dX3_count_16 : decode cX3_count 16 = .ok (.iload_n 1, 1) := by decide +kernel
theorem dX3_count_17 : decode cX3_count 17 = .ok (.tableswitch 54 0 2 #[27, 35, 43], 27) := by decide +kernel
theorem dX3_count_44 : decode cX3_count 44 = .ok (.aload_n 0, 1) := by decide +kernel
theorem dX3_count_45 : decode cX3_count 45 = .ok (.getfield 10, 3) := by decide +kernel
theorem dX3_count_48 : decode cX3_count 48 = .ok (.getfield 94, 3) := by decide +kernel
theorem dX3_count_51 : decode cX3_count 51 = .ok (.ireturn, 1) := by decide +kernel
theorem dX3_count_52 : decode cX3_count 52 = .ok (.aload_n 0, 1) := by decide +kernel
theorem dX3_count_53 : decode cX3_count 53 = .ok (.getfield 25, 3) := by decide +kernel
theorem dX3_count_56 : decode cX3_count 56 = .ok (.getfield 179, 3) := by decide +kernel
theorem dX3_count_59 : decode cX3_count 59 = .ok (.ireturn, 1) := by decide +kernel
theorem dX3_count_60 : decode cX3_count 60 = .ok (.aload_n 0, 1) := by decide +kernel
theorem dX3_count_61 : decode cX3_count 61 = .ok (.getfield 10, 3) := by decide +kernel
theorem dX3_count_64 : decode cX3_count 64 = .ok (.getfield 57, 3) := by decide +kernel
theorem dX3_count_67 : decode cX3_count 67 = .ok (.invokestatic 234, 3) := by decide +kernel
theorem dX3_count_70 : decode cX3_count 70 = .ok (.ireturn, 1) := by decide +kernel
theorem dX3_count_71 : decode cX3_count 71 = .ok (.aload_n 0, 1) := by decide +kernel
theorem dX3_count_72 : decode cX3_count 72 = .ok (.getfield 10, 3) := by decide +kernel
theorem dX3_count_75 : decode cX3_count 75 = .ok (.getfield 60, 3) := by decide +kernel
theorem dX3_count_78 : decode cX3_count 78 = .ok (.invokestatic 234, 3) := by decide +kernel
theorem dX3_count_81 : decode cX3_count 81 = .ok (.ireturn, 1) := by decide +kernel
theorem dX3_status_0 : decode cX3_status 0 = .ok (.iload_n 1, 1) := by decide +kernel
theorem dX3_status_1 : decode cX3_status 1 = .ok (.iconst (-1), 1) := by decide +kernel
theorem dX3_status_2 : decode cX3_status 2 = .ok (.bipush 6, 2) := by decide +kernel
theorem dX3_status_4 : decode cX3_status 4 = .ok (.invokestatic 44, 3) := by decide +kernel
theorem dX3_status_7 : decode cX3_status 7 = .ok (.ifCond .eq 10, 3) := by decide +kernel
theorem dX3_status_10 : decode cX3_status 10 = .ok (.aload_n 0, 1) := by decide +kernel
theorem dX3_status_11 : decode cX3_status 11 = .ok (.ldc 48, 2) := by decide +kernel
theorem dX3_status_13 : decode cX3_status 13 = .ok (.invokevirtual 49, 3) := by decide +kernel
theorem dX3_status_16 : decode cX3_status 16 = .ok (.ireturn, 1) := by decide +kernel
theorem dX3_status_17 : decode cX3_status 17 = .ok (.iload_n 1, 1) := by decide +kernel
theorem dX3_status_18 : decode cX3_status 18 = .ok (.ifCond .lt 10, 3) := by decide +kernel
theorem dX3_status_21 : decode cX3_status 21 = .ok (.aload_n 0, 1) := by decide +kernel
theorem dX3_status_22 : decode cX3_status 22 = .ok (.getfield 35, 3) := by decide +kernel
theorem dX3_status_25 : decode cX3_status 25 = .ok (.iload_n 1, 1) := by decide +kernel
theorem dX3_status_26 : decode cX3_status 26 = .ok (.iaload, 1) := by decide +kernel
theorem dX3_status_27 : decode cX3_status 27 = .ok (.ireturn, 1) := by decide +kernel
theorem dX3_status_28 : decode cX3_status 28 = .ok (.iconst 0, 1) := by decide +kernel
theorem dX3_status_29 : decode cX3_status 29 = .ok (.istore_n 2, 1) := by decide +kernel
theorem dX3_status_30 : decode cX3_status 30 = .ok (.iconst 0, 1) := by decide +kernel
theorem dX3_status_31 : decode cX3_status 31 = .ok (.istore_n 3, 1) := by decide +kernel
theorem dX3_status_32 : decode cX3_status 32 = .ok (.iload_n 3, 1) := by decide +kernel
theorem dX3_status_33 : decode cX3_status 33 = .ok (.bipush 7, 2) := by decide +kernel
theorem dX3_status_35 : decode cX3_status 35 = .ok (.if_icmp .ge 18, 3) := by decide +kernel
theorem dX3_status_38 : decode cX3_status 38 = .ok (.iload_n 2, 1) := by decide +kernel
theorem dX3_status_39 : decode cX3_status 39 = .ok (.aload_n 0, 1) := by decide +kernel
theorem dX3_status_40 : decode cX3_status 40 = .ok (.getfield 35, 3) := by decide +kernel
theorem dX3_status_43 : decode cX3_status 43 = .ok (.iload_n 3, 1) := by decide +kernel
theorem dX3_status_44 : decode cX3_status 44 = .ok (.iaload, 1) := by decide +kernel
theorem dX3_status_45 : decode cX3_status 45 = .ok (.iadd, 1) := by decide +kernel
theorem dX3_status_46 : decode cX3_status 46 = .ok (.istore_n 2, 1) := by decide +kernel
theorem dX3_status_47 : decode cX3_status 47 = .ok (.iinc 3 1, 3) := by decide +kernel
theorem dX3_status_50 : decode cX3_status 50 = .ok (.goto (-18), 3) := by decide +kernel
theorem dX3_status_53 : decode cX3_status 53 = .ok (.iload_n 2, 1) := by decide +kernel
theorem dX3_status_54 : decode cX3_status 54 = .ok (.ireturn, 1) := by decide +kernel
theorem dX3_finding_0 : decode cX3_finding 0 = .ok (.aload_n 0, 1) := by decide +kernel
theorem dX3_finding_1 : decode cX3_finding 1 = .ok (.getfield 35, 3) := by decide +kernel
theorem dX3_finding_4 : decode cX3_finding 4 = .ok (.ldc 48, 2) := by decide +kernel
theorem dX3_finding_6 : decode cX3_finding 6 = .ok (.iload_n 1, 1) := by decide +kernel
theorem dX3_finding_7 : decode cX3_finding 7 = .ok (.isub, 1) := by decide +kernel
theorem dX3_finding_8 : decode cX3_finding 8 = .ok (.dup2, 1) := by decide +kernel
theorem dX3_finding_9 : decode cX3_finding 9 = .ok (.iaload, 1) := by decide +kernel
theorem dX3_finding_10 : decode cX3_finding 10 = .ok (.iconst 1, 1) := by decide +kernel
theorem dX3_finding_11 : decode cX3_finding 11 = .ok (.iadd, 1) := by decide +kernel
theorem dX3_finding_12 : decode cX3_finding 12 = .ok (.iastore, 1) := by decide +kernel
theorem dX3_finding_13 : decode cX3_finding 13 = .ok (.iload_n 1, 1) := by decide +kernel
theorem dX3_finding_14 : decode cX3_finding 14 = .ok (.ireturn, 1) := by decide +kernel
theorem dX3_noMender_0 : decode cX3_noMender 0 = .ok (.iload_n 1, 1) := by decide +kernel
theorem dX3_noMender_1 : decode cX3_noMender 1 = .ok (.iconst 0, 1) := by decide +kernel
theorem dX3_noMender_2 : decode cX3_noMender 2 = .ok (.aload_n 0, 1) := by decide +kernel
theorem dX3_noMender_3 : decode cX3_noMender 3 = .ok (.getfield 10, 3) := by decide +kernel
theorem dX3_noMender_6 : decode cX3_noMender 6 = .ok (.getfield 94, 3) := by decide +kernel
theorem dX3_noMender_9 : decode cX3_noMender 9 = .ok (.iconst 1, 1) := by decide +kernel
theorem dX3_noMender_10 : decode cX3_noMender 10 = .ok (.isub, 1) := by decide +kernel
theorem dX3_noMender_11 : decode cX3_noMender 11 = .ok (.invokestatic 44, 3) := by decide +kernel
theorem dX3_noMender_14 : decode cX3_noMender 14 = .ok (.ireturn, 1) := by decide +kernel
theorem dX3_noCell_0 : decode cX3_noCell 0 = .ok (.iload_n 0, 1) := by decide +kernel
theorem dX3_noCell_1 : decode cX3_noCell 1 = .ok (.iconst 0, 1) := by decide +kernel
theorem dX3_noCell_2 : decode cX3_noCell 2 = .ok (.bipush 47, 2) := by decide +kernel
theorem dX3_noCell_4 : decode cX3_noCell 4 = .ok (.invokestatic 44, 3) := by decide +kernel
theorem dX3_noCell_7 : decode cX3_noCell 7 = .ok (.ireturn, 1) := by decide +kernel
theorem dX3_noKind_0 : decode cX3_noKind 0 = .ok (.iload_n 0, 1) := by decide +kernel
theorem dX3_noKind_1 : decode cX3_noKind 1 = .ok (.iconst 0, 1) := by decide +kernel
theorem dX3_noKind_2 : decode cX3_noKind 2 = .ok (.iconst 5, 1) := by decide +kernel
theorem dX3_noKind_3 : decode cX3_noKind 3 = .ok (.invokestatic 44, 3) := by decide +kernel
theorem dX3_noKind_6 : decode cX3_noKind 6 = .ok (.ireturn, 1) := by decide +kernel
theorem dX3_noSheet_0 : decode cX3_noSheet 0 = .ok (.iload_n 0, 1) := by decide +kernel
theorem dX3_noSheet_1 : decode cX3_noSheet 1 = .ok (.iconst 0, 1) := by decide +kernel
theorem dX3_noSheet_2 : decode cX3_noSheet 2 = .ok (.iconst 3, 1) := by decide +kernel
theorem dX3_noSheet_3 : decode cX3_noSheet 3 = .ok (.invokestatic 44, 3) := by decide +kernel
theorem dX3_noSheet_6 : decode cX3_noSheet 6 = .ok (.ireturn, 1) := by decide +kernel
theorem dX3_outside_0 : decode cX3_outside 0 = .ok (.iload_n 0, 1) := by decide +kernel
theorem dX3_outside_1 : decode cX3_outside 1 = .ok (.iload_n 1, 1) := by decide +kernel
theorem dX3_outside_2 : decode cX3_outside 2 = .ok (.if_icmp .lt 8, 3) := by decide +kernel
theorem dX3_outside_5 : decode cX3_outside 5 = .ok (.iload_n 0, 1) := by decide +kernel
theorem dX3_outside_6 : decode cX3_outside 6 = .ok (.iload_n 2, 1) := by decide +kernel
theorem dX3_outside_7 : decode cX3_outside 7 = .ok (.if_icmp .le 7, 3) := by decide +kernel
theorem dX3_outside_10 : decode cX3_outside 10 = .ok (.iconst 1, 1) := by decide +kernel
theorem dX3_outside_11 : decode cX3_outside 11 = .ok (.goto 4, 3) := by decide +kernel
theorem dX3_outside_14 : decode cX3_outside 14 = .ok (.iconst 0, 1) := by decide +kernel
theorem dX3_outside_15 : decode cX3_outside 15 = .ok (.ireturn, 1) := by decide +kernel
theorem dX3_isUnder_0 : decode cX3_isUnder 0 = .ok (.iload_n 0, 1) := by decide +kernel
theorem dX3_isUnder_1 : decode cX3_isUnder 1 = .ok (.iload_n 1, 1) := by decide +kernel
theorem dX3_isUnder_2 : decode cX3_isUnder 2 = .ok (.if_icmp .eq 7, 3) := by decide +kernel
theorem dX3_isUnder_5 : decode cX3_isUnder 5 = .ok (.iload_n 1, 1) := by decide +kernel
theorem dX3_isUnder_6 : decode cX3_isUnder 6 = .ok (.ifCond .ne 5, 3) := by decide +kernel
theorem dX3_isUnder_9 : decode cX3_isUnder 9 = .ok (.iconst 1, 1) := by decide +kernel
theorem dX3_isUnder_10 : decode cX3_isUnder 10 = .ok (.ireturn, 1) := by decide +kernel
theorem dX3_isUnder_11 : decode cX3_isUnder 11 = .ok (.iload_n 0, 1) := by decide +kernel
theorem dX3_isUnder_12 : decode cX3_isUnder 12 = .ok (.iconst 4, 1) := by decide +kernel
theorem dX3_isUnder_13 : decode cX3_isUnder 13 = .ok (.if_icmp .ne 8, 3) := by decide +kernel
theorem dX3_isUnder_16 : decode cX3_isUnder 16 = .ok (.iload_n 1, 1) := by decide +kernel
theorem dX3_isUnder_17 : decode cX3_isUnder 17 = .ok (.iconst 1, 1) := by decide +kernel
theorem dX3_isUnder_18 : decode cX3_isUnder 18 = .ok (.if_icmp .eq 13, 3) := by decide +kernel
theorem dX3_isUnder_21 : decode cX3_isUnder 21 = .ok (.iload_n 0, 1) := by decide +kernel
theorem dX3_isUnder_22 : decode cX3_isUnder 22 = .ok (.iconst 5, 1) := by decide +kernel
theorem dX3_isUnder_23 : decode cX3_isUnder 23 = .ok (.if_icmp .ne 12, 3) := by decide +kernel
theorem dX3_isUnder_26 : decode cX3_isUnder 26 = .ok (.iload_n 1, 1) := by decide +kernel
theorem dX3_isUnder_27 : decode cX3_isUnder 27 = .ok (.iconst 2, 1) := by decide +kernel
theorem dX3_isUnder_28 : decode cX3_isUnder 28 = .ok (.if_icmp .ne 7, 3) := by decide +kernel
theorem dX3_isUnder_31 : decode cX3_isUnder 31 = .ok (.iconst 1, 1) := by decide +kernel
theorem dX3_isUnder_32 : decode cX3_isUnder 32 = .ok (.goto 4, 3) := by decide +kernel
theorem dX3_isUnder_35 : decode cX3_isUnder 35 = .ok (.iconst 0, 1) := by decide +kernel
theorem dX3_isUnder_36 : decode cX3_isUnder 36 = .ok (.ireturn, 1) := by decide +kernel
theorem dX3_notPlain_0 : decode cX3_notPlain 0 = .ok (.iconst 0, 1) := by decide +kernel
theorem dX3_notPlain_1 : decode cX3_notPlain 1 = .ok (.istore_n 1, 1) := by decide +kernel
theorem dX3_notPlain_2 : decode cX3_notPlain 2 = .ok (.iconst 0, 1) := by decide +kernel
theorem dX3_notPlain_3 : decode cX3_notPlain 3 = .ok (.istore_n 2, 1) := by decide +kernel
theorem dX3_notPlain_4 : decode cX3_notPlain 4 = .ok (.iload_n 2, 1) := by decide +kernel
theorem dX3_notPlain_5 : decode cX3_notPlain 5 = .ok (.bipush 48, 2) := by decide +kernel
theorem dX3_notPlain_7 : decode cX3_notPlain 7 = .ok (.if_icmp .ge 18, 3) := by decide +kernel
theorem dX3_notPlain_10 : decode cX3_notPlain 10 = .ok (.aload_n 0, 1) := by decide +kernel
theorem dX3_notPlain_11 : decode cX3_notPlain 11 = .ok (.iload_n 2, 1) := by decide +kernel
theorem dX3_notPlain_12 : decode cX3_notPlain 12 = .ok (.iaload, 1) := by decide +kernel
theorem dX3_notPlain_13 : decode cX3_notPlain 13 = .ok (.ifCond .eq 6, 3) := by decide +kernel
theorem dX3_notPlain_16 : decode cX3_notPlain 16 = .ok (.iinc 1 1, 3) := by decide +kernel
theorem dX3_notPlain_19 : decode cX3_notPlain 19 = .ok (.iinc 2 1, 3) := by decide +kernel
theorem dX3_notPlain_22 : decode cX3_notPlain 22 = .ok (.goto (-18), 3) := by decide +kernel
theorem dX3_notPlain_25 : decode cX3_notPlain 25 = .ok (.iload_n 1, 1) := by decide +kernel
theorem dX3_notPlain_26 : decode cX3_notPlain 26 = .ok (.ireturn, 1) := by decide +kernel
theorem dX3_firstYearWithout_0 : decode cX3_firstYearWithout 0 = .ok (.aload_n 0, 1) := by decide +kernel
theorem dX3_firstYearWithout_1 : decode cX3_firstYearWithout 1 = .ok (.getfield 16, 3) := by decide +kernel
theorem dX3_firstYearWithout_4 : decode cX3_firstYearWithout 4 = .ok (.aload_n 0, 1) := by decide +kernel
theorem dX3_firstYearWithout_5 : decode cX3_firstYearWithout 5 = .ok (.getfield 10, 3) := by decide +kernel
theorem dX3_firstYearWithout_8 : decode cX3_firstYearWithout 8 = .ok (.invokevirtual 150, 3) := by decide +kernel
theorem dX3_firstYearWithout_11 : decode cX3_firstYearWithout 11 = .ok (.iconst 0, 1) := by decide +kernel
theorem dX3_firstYearWithout_12 : decode cX3_firstYearWithout 12 = .ok (.istore_n 3, 1) := by decide +kernel
theorem dX3_firstYearWithout_13 : decode cX3_firstYearWithout 13 = .ok (.iload_n 3, 1) := by decide +kernel
theorem dX3_firstYearWithout_14 : decode cX3_firstYearWithout 14 = .ok (.bipush 60, 2) := by decide +kernel
theorem dX3_firstYearWithout_16 : decode cX3_firstYearWithout 16 = .ok (.if_icmp .ge 35, 3) := by decide +kernel
theorem dX3_firstYearWithout_19 : decode cX3_firstYearWithout 19 = .ok (.aload_n 0, 1) := by decide +kernel
theorem dX3_firstYearWithout_20 : decode cX3_firstYearWithout 20 = .ok (.getfield 16, 3) := by decide +kernel
theorem dX3_firstYearWithout_23 : decode cX3_firstYearWithout 23 = .ok (.getfield 66, 3) := by decide +kernel
theorem dX3_firstYearWithout_26 : decode cX3_firstYearWithout 26 = .ok (.lload_n 1, 1) := by decide +kernel
theorem dX3_firstYearWithout_27 : decode cX3_firstYearWithout 27 = .ok (.land, 1) := by decide +kernel
theorem dX3_firstYearWithout_28 : decode cX3_firstYearWithout 28 = .ok (.lconst 0, 1) := by decide +kernel
theorem dX3_firstYearWithout_29 : decode cX3_firstYearWithout 29 = .ok (.lcmp, 1) := by decide +kernel
theorem dX3_firstYearWithout_30 : decode cX3_firstYearWithout 30 = .ok (.ifCond .ne 5, 3) := by decide +kernel
theorem dX3_firstYearWithout_33 : decode cX3_firstYearWithout 33 = .ok (.iload_n 3, 1) := by decide +kernel
theorem dX3_firstYearWithout_34 : decode cX3_firstYearWithout 34 = .ok (.ireturn, 1) := by decide +kernel
theorem dX3_firstYearWithout_35 : decode cX3_firstYearWithout 35 = .ok (.aload_n 0, 1) := by decide +kernel
theorem dX3_firstYearWithout_36 : decode cX3_firstYearWithout 36 = .ok (.getfield 16, 3) := by decide +kernel
theorem dX3_firstYearWithout_39 : decode cX3_firstYearWithout 39 = .ok (.iconst 1, 1) := by decide +kernel
theorem dX3_firstYearWithout_40 : decode cX3_firstYearWithout 40 = .ok (.iconst (-1), 1) := by decide +kernel
theorem dX3_firstYearWithout_41 : decode cX3_firstYearWithout 41 = .ok (.invokevirtual 143, 3) := by decide +kernel
theorem dX3_firstYearWithout_44 : decode cX3_firstYearWithout 44 = .ok (.pop, 1) := by decide +kernel
theorem dX3_firstYearWithout_45 : decode cX3_firstYearWithout 45 = .ok (.iinc 3 1, 3) := by decide +kernel
theorem dX3_firstYearWithout_48 : decode cX3_firstYearWithout 48 = .ok (.goto (-35), 3) := by decide +kernel
theorem dX3_firstYearWithout_51 : decode cX3_firstYearWithout 51 = .ok (.aload_n 0, 1) := by decide +kernel
theorem dX3_firstYearWithout_52 : decode cX3_firstYearWithout 52 = .ok (.getfield 16, 3) := by decide +kernel
theorem dX3_firstYearWithout_55 : decode cX3_firstYearWithout 55 = .ok (.getfield 66, 3) := by decide +kernel
theorem dX3_firstYearWithout_58 : decode cX3_firstYearWithout 58 = .ok (.lload_n 1, 1) := by decide +kernel
theorem dX3_firstYearWithout_59 : decode cX3_firstYearWithout 59 = .ok (.land, 1) := by decide +kernel
theorem dX3_firstYearWithout_60 : decode cX3_firstYearWithout 60 = .ok (.lconst 0, 1) := by decide +kernel
theorem dX3_firstYearWithout_61 : decode cX3_firstYearWithout 61 = .ok (.lcmp, 1) := by decide +kernel
theorem dX3_firstYearWithout_62 : decode cX3_firstYearWithout 62 = .ok (.ifCond .ne 8, 3) := by decide +kernel
theorem dX3_firstYearWithout_65 : decode cX3_firstYearWithout 65 = .ok (.bipush 60, 2) := by decide +kernel
theorem dX3_firstYearWithout_67 : decode cX3_firstYearWithout 67 = .ok (.goto 4, 3) := by decide +kernel
theorem dX3_firstYearWithout_70 : decode cX3_firstYearWithout 70 = .ok (.iconst (-1), 1) := by decide +kernel
theorem dX3_firstYearWithout_71 : decode cX3_firstYearWithout 71 = .ok (.ireturn, 1) := by decide +kernel
theorem dX3_bestPair_0 : decode cX3_bestPair 0 = .ok (.iconst (-1), 1) := by decide +kernel
theorem dX3_bestPair_1 : decode cX3_bestPair 1 = .ok (.istore_n 2, 1) := by decide +kernel
theorem dX3_bestPair_2 : decode cX3_bestPair 2 = .ok (.bipush 49, 2) := by decide +kernel
theorem dX3_bestPair_4 : decode cX3_bestPair 4 = .ok (.istore_n 3, 1) := by decide +kernel
theorem dX3_bestPair_5 : decode cX3_bestPair 5 = .ok (.iconst 0, 1) := by decide +kernel
theorem dX3_bestPair_6 : decode cX3_bestPair 6 = .ok (.istore 4, 2) := by decide +kernel
theorem dX3_bestPair_8 : decode cX3_bestPair 8 = .ok (.iload 4, 2) := by decide +kernel
theorem dX3_bestPair_10 : decode cX3_bestPair 10 = .ok (.bipush 48, 2) := by decide +kernel
theorem dX3_bestPair_12 : decode cX3_bestPair 12 = .ok (.if_icmp .ge 90, 3) := by decide +kernel
theorem dX3_bestPair_15 : decode cX3_bestPair 15 = .ok (.aload_n 0, 1) := by decide +kernel
theorem dX3_bestPair_16 : decode cX3_bestPair 16 = .ok (.getfield 10, 3) := by decide +kernel
theorem dX3_bestPair_19 : decode cX3_bestPair 19 = .ok (.iload 4, 2) := by decide +kernel
theorem dX3_bestPair_21 : decode cX3_bestPair 21 = .ok (.invokevirtual 63, 3) := by decide +kernel
theorem dX3_bestPair_24 : decode cX3_bestPair 24 = .ok (.ifCond .eq 72, 3) := by decide +kernel
theorem dX3_bestPair_27 : decode cX3_bestPair 27 = .ok (.aload_n 0, 1) := by decide +kernel
theorem dX3_bestPair_28 : decode cX3_bestPair 28 = .ok (.getfield 16, 3) := by decide +kernel
theorem dX3_bestPair_31 : decode cX3_bestPair 31 = .ok (.aload_n 0, 1) := by decide +kernel
theorem dX3_bestPair_32 : decode cX3_bestPair 32 = .ok (.getfield 10, 3) := by decide +kernel
theorem dX3_bestPair_35 : decode cX3_bestPair 35 = .ok (.invokevirtual 150, 3) := by decide +kernel
theorem dX3_bestPair_38 : decode cX3_bestPair 38 = .ok (.aload_n 0, 1) := by decide +kernel
end
section
theorem dX3_bestPair_39 : decode cX3_bestPair 39 = .ok (.getfield 16, 3) := by decide +kernel
theorem dX3_bestPair_42 : decode cX3_bestPair 42 = .ok (.iload_n 1, 1) := by decide +kernel
theorem dX3_bestPair_43 : decode cX3_bestPair 43 = .ok (.iload 4, 2) := by decide +kernel
theorem dX3_bestPair_45 : decode cX3_bestPair 45 = .ok (.invokevirtual 166, 3) := by decide +kernel
theorem dX3_bestPair_48 : decode cX3_bestPair 48 = .ok (.aload_n 0, 1) := by decide +kernel
theorem dX3_bestPair_49 : decode cX3_bestPair 49 = .ok (.getfield 16, 3) := by decide +kernel
theorem dX3_bestPair_52 : decode cX3_bestPair 52 = .ok (.iload_n 1, 1) := by decide +kernel
theorem dX3_bestPair_53 : decode cX3_bestPair 53 = .ok (.invokevirtual 160, 3) := by decide +kernel
theorem dX3_bestPair_56 : decode cX3_bestPair 56 = .ok (.istore 5, 2) := by decide +kernel
theorem dX3_bestPair_58 : decode cX3_bestPair 58 = .ok (.iload 5, 2) := by decide +kernel
theorem dX3_bestPair_60 : decode cX3_bestPair 60 = .ok (.ifCond .lt 36, 3) := by decide +kernel
theorem dX3_bestPair_63 : decode cX3_bestPair 63 = .ok (.aload_n 0, 1) := by decide +kernel
theorem dX3_bestPair_64 : decode cX3_bestPair 64 = .ok (.getfield 16, 3) := by decide +kernel
theorem dX3_bestPair_67 : decode cX3_bestPair 67 = .ok (.iload_n 1, 1) := by decide +kernel
theorem dX3_bestPair_68 : decode cX3_bestPair 68 = .ok (.iload 5, 2) := by decide +kernel
theorem dX3_bestPair_70 : decode cX3_bestPair 70 = .ok (.invokevirtual 170, 3) := by decide +kernel
theorem dX3_bestPair_73 : decode cX3_bestPair 73 = .ok (.invokestatic 74, 3) := by decide +kernel
theorem dX3_bestPair_76 : decode cX3_bestPair 76 = .ok (.istore 6, 2) := by decide +kernel
theorem dX3_bestPair_78 : decode cX3_bestPair 78 = .ok (.iload 6, 2) := by decide +kernel
theorem dX3_bestPair_80 : decode cX3_bestPair 80 = .ok (.iload_n 3, 1) := by decide +kernel
theorem dX3_bestPair_81 : decode cX3_bestPair 81 = .ok (.if_icmp .ge 15, 3) := by decide +kernel
theorem dX3_bestPair_84 : decode cX3_bestPair 84 = .ok (.iload 6, 2) := by decide +kernel
theorem dX3_bestPair_86 : decode cX3_bestPair 86 = .ok (.istore_n 3, 1) := by decide +kernel
theorem dX3_bestPair_87 : decode cX3_bestPair 87 = .ok (.bipush 100, 2) := by decide +kernel
theorem dX3_bestPair_89 : decode cX3_bestPair 89 = .ok (.iload 4, 2) := by decide +kernel
theorem dX3_bestPair_91 : decode cX3_bestPair 91 = .ok (.imul, 1) := by decide +kernel
theorem dX3_bestPair_92 : decode cX3_bestPair 92 = .ok (.iload 5, 2) := by decide +kernel
theorem dX3_bestPair_94 : decode cX3_bestPair 94 = .ok (.iadd, 1) := by decide +kernel
theorem dX3_bestPair_95 : decode cX3_bestPair 95 = .ok (.istore_n 2, 1) := by decide +kernel
theorem dX3_bestPair_96 : decode cX3_bestPair 96 = .ok (.iinc 4 1, 3) := by decide +kernel
theorem dX3_bestPair_99 : decode cX3_bestPair 99 = .ok (.goto (-91), 3) := by decide +kernel
theorem dX3_bestPair_102 : decode cX3_bestPair 102 = .ok (.iload_n 2, 1) := by decide +kernel
theorem dX3_bestPair_103 : decode cX3_bestPair 103 = .ok (.ireturn, 1) := by decide +kernel
theorem dX3_tryPurse_0 : decode cX3_tryPurse 0 = .ok (.aload_n 0, 1) := by decide +kernel
theorem dX3_tryPurse_1 : decode cX3_tryPurse 1 = .ok (.getfield 16, 3) := by decide +kernel
theorem dX3_tryPurse_4 : decode cX3_tryPurse 4 = .ok (.aload_n 0, 1) := by decide +kernel
theorem dX3_tryPurse_5 : decode cX3_tryPurse 5 = .ok (.getfield 10, 3) := by decide +kernel
theorem dX3_tryPurse_8 : decode cX3_tryPurse 8 = .ok (.invokevirtual 150, 3) := by decide +kernel
theorem dX3_tryPurse_11 : decode cX3_tryPurse 11 = .ok (.aload_n 0, 1) := by decide +kernel
theorem dX3_tryPurse_12 : decode cX3_tryPurse 12 = .ok (.getfield 16, 3) := by decide +kernel
theorem dX3_tryPurse_15 : decode cX3_tryPurse 15 = .ok (.getfield 110, 3) := by decide +kernel
theorem dX3_tryPurse_18 : decode cX3_tryPurse 18 = .ok (.iload_n 1, 1) := by decide +kernel
theorem dX3_tryPurse_19 : decode cX3_tryPurse 19 = .ok (.iload_n 2, 1) := by decide +kernel
theorem dX3_tryPurse_20 : decode cX3_tryPurse 20 = .ok (.iastore, 1) := by decide +kernel
theorem dX3_tryPurse_21 : decode cX3_tryPurse 21 = .ok (.return_, 1) := by decide +kernel
theorem dX3_trialGoesAs_0 : decode cX3_trialGoesAs 0 = .ok (.iconst 0, 1) := by decide +kernel
theorem dX3_trialGoesAs_1 : decode cX3_trialGoesAs 1 = .ok (.istore_n 2, 1) := by decide +kernel
theorem dX3_trialGoesAs_2 : decode cX3_trialGoesAs 2 = .ok (.iload_n 2, 1) := by decide +kernel
theorem dX3_trialGoesAs_3 : decode cX3_trialGoesAs 3 = .ok (.aload_n 1, 1) := by decide +kernel
theorem dX3_trialGoesAs_4 : decode cX3_trialGoesAs 4 = .ok (.getfield 196, 3) := by decide +kernel
theorem dX3_trialGoesAs_7 : decode cX3_trialGoesAs 7 = .ok (.if_icmp .ge 39, 3) := by decide +kernel
theorem dX3_trialGoesAs_10 : decode cX3_trialGoesAs 10 = .ok (.aload_n 1, 1) := by decide +kernel
theorem dX3_trialGoesAs_11 : decode cX3_trialGoesAs 11 = .ok (.getfield 214, 3) := by decide +kernel
theorem dX3_trialGoesAs_14 : decode cX3_trialGoesAs 14 = .ok (.iload_n 2, 1) := by decide +kernel
theorem dX3_trialGoesAs_15 : decode cX3_trialGoesAs 15 = .ok (.laload, 1) := by decide +kernel
theorem dX3_trialGoesAs_16 : decode cX3_trialGoesAs 16 = .ok (.aload_n 0, 1) := by decide +kernel
theorem dX3_trialGoesAs_17 : decode cX3_trialGoesAs 17 = .ok (.getfield 16, 3) := by decide +kernel
theorem dX3_trialGoesAs_20 : decode cX3_trialGoesAs 20 = .ok (.invokevirtual 136, 3) := by decide +kernel
theorem dX3_trialGoesAs_23 : decode cX3_trialGoesAs 23 = .ok (.i2l, 1) := by decide +kernel
theorem dX3_trialGoesAs_24 : decode cX3_trialGoesAs 24 = .ok (.lcmp, 1) := by decide +kernel
theorem dX3_trialGoesAs_25 : decode cX3_trialGoesAs 25 = .ok (.ifCond .eq 5, 3) := by decide +kernel
theorem dX3_trialGoesAs_28 : decode cX3_trialGoesAs 28 = .ok (.iconst 0, 1) := by decide +kernel
theorem dX3_trialGoesAs_29 : decode cX3_trialGoesAs 29 = .ok (.ireturn, 1) := by decide +kernel
theorem dX3_trialGoesAs_30 : decode cX3_trialGoesAs 30 = .ok (.aload_n 0, 1) := by decide +kernel
theorem dX3_trialGoesAs_31 : decode cX3_trialGoesAs 31 = .ok (.getfield 16, 3) := by decide +kernel
theorem dX3_trialGoesAs_34 : decode cX3_trialGoesAs 34 = .ok (.iconst 1, 1) := by decide +kernel
theorem dX3_trialGoesAs_35 : decode cX3_trialGoesAs 35 = .ok (.iconst (-1), 1) := by decide +kernel
theorem dX3_trialGoesAs_36 : decode cX3_trialGoesAs 36 = .ok (.invokevirtual 143, 3) := by decide +kernel
theorem dX3_trialGoesAs_39 : decode cX3_trialGoesAs 39 = .ok (.pop, 1) := by decide +kernel
theorem dX3_trialGoesAs_40 : decode cX3_trialGoesAs 40 = .ok (.iinc 2 1, 3) := by decide +kernel
theorem dX3_trialGoesAs_43 : decode cX3_trialGoesAs 43 = .ok (.goto (-41), 3) := by decide +kernel
theorem dX3_trialGoesAs_46 : decode cX3_trialGoesAs 46 = .ok (.iconst 1, 1) := by decide +kernel
theorem dX3_trialGoesAs_47 : decode cX3_trialGoesAs 47 = .ok (.ireturn, 1) := by decide +kernel
theorem dX3_beside_0 : decode cX3_beside 0 = .ok (.lload_n 0, 1) := by decide +kernel
theorem dX3_beside_1 : decode cX3_beside 1 = .ok (.ldc2_w 237, 3) := by decide +kernel
theorem dX3_beside_4 : decode cX3_beside 4 = .ok (.land, 1) := by decide +kernel
theorem dX3_beside_5 : decode cX3_beside 5 = .ok (.iconst 1, 1) := by decide +kernel
theorem dX3_beside_6 : decode cX3_beside 6 = .ok (.lshl, 1) := by decide +kernel
theorem dX3_beside_7 : decode cX3_beside 7 = .ok (.lload_n 0, 1) := by decide +kernel
theorem dX3_beside_8 : decode cX3_beside 8 = .ok (.ldc2_w 239, 3) := by decide +kernel
theorem dX3_beside_11 : decode cX3_beside 11 = .ok (.land, 1) := by decide +kernel
theorem dX3_beside_12 : decode cX3_beside 12 = .ok (.iconst 1, 1) := by decide +kernel
theorem dX3_beside_13 : decode cX3_beside 13 = .ok (.lushr, 1) := by decide +kernel
theorem dX3_beside_14 : decode cX3_beside 14 = .ok (.lor, 1) := by decide +kernel
theorem dX3_beside_15 : decode cX3_beside 15 = .ok (.lstore_n 2, 1) := by decide +kernel
theorem dX3_beside_16 : decode cX3_beside 16 = .ok (.lload_n 0, 1) := by decide +kernel
theorem dX3_beside_17 : decode cX3_beside 17 = .ok (.bipush 8, 2) := by decide +kernel
theorem dX3_beside_19 : decode cX3_beside 19 = .ok (.lshl, 1) := by decide +kernel
theorem dX3_beside_20 : decode cX3_beside 20 = .ok (.lload_n 0, 1) := by decide +kernel
theorem dX3_beside_21 : decode cX3_beside 21 = .ok (.bipush 8, 2) := by decide +kernel
theorem dX3_beside_23 : decode cX3_beside 23 = .ok (.lushr, 1) := by decide +kernel
theorem dX3_beside_24 : decode cX3_beside 24 = .ok (.lor, 1) := by decide +kernel
theorem dX3_beside_25 : decode cX3_beside 25 = .ok (.lload_n 2, 1) := by decide +kernel
theorem dX3_beside_26 : decode cX3_beside 26 = .ok (.lor, 1) := by decide +kernel
theorem dX3_beside_27 : decode cX3_beside 27 = .ok (.ldc2_w 154, 3) := by decide +kernel
theorem dX3_beside_30 : decode cX3_beside 30 = .ok (.land, 1) := by decide +kernel
theorem dX3_beside_31 : decode cX3_beside 31 = .ok (.lreturn, 1) := by decide +kernel
theorem dX3_has_0 : decode cX3_has 0 = .ok (.lload_n 0, 1) := by decide +kernel
theorem dX3_has_1 : decode cX3_has 1 = .ok (.iload_n 2, 1) := by decide +kernel
theorem dX3_has_2 : decode cX3_has 2 = .ok (.lushr, 1) := by decide +kernel
theorem dX3_has_3 : decode cX3_has 3 = .ok (.lconst 1, 1) := by decide +kernel
theorem dX3_has_4 : decode cX3_has 4 = .ok (.land, 1) := by decide +kernel
theorem dX3_has_5 : decode cX3_has 5 = .ok (.lconst 0, 1) := by decide +kernel
theorem dX3_has_6 : decode cX3_has 6 = .ok (.lcmp, 1) := by decide +kernel
theorem dX3_has_7 : decode cX3_has 7 = .ok (.ifCond .eq 7, 3) := by decide +kernel
theorem dX3_has_10 : decode cX3_has 10 = .ok (.iconst 1, 1) := by decide +kernel
theorem dX3_has_11 : decode cX3_has 11 = .ok (.goto 4, 3) := by decide +kernel
theorem dX3_has_14 : decode cX3_has 14 = .ok (.iconst 0, 1) := by decide +kernel
theorem dX3_has_15 : decode cX3_has 15 = .ok (.ireturn, 1) := by decide +kernel
theorem dX3_leastOf_0 : decode cX3_leastOf 0 = .ok (.lload_n 0, 1) := by decide +kernel
theorem dX3_leastOf_1 : decode cX3_leastOf 1 = .ok (.lload_n 0, 1) := by decide +kernel
theorem dX3_leastOf_2 : decode cX3_leastOf 2 = .ok (.lneg, 1) := by decide +kernel
theorem dX3_leastOf_3 : decode cX3_leastOf 3 = .ok (.land, 1) := by decide +kernel
theorem dX3_leastOf_4 : decode cX3_leastOf 4 = .ok (.lconst 1, 1) := by decide +kernel
theorem dX3_leastOf_5 : decode cX3_leastOf 5 = .ok (.lsub, 1) := by decide +kernel
theorem dX3_leastOf_6 : decode cX3_leastOf 6 = .ok (.invokestatic 74, 3) := by decide +kernel
theorem dX3_leastOf_9 : decode cX3_leastOf 9 = .ok (.ireturn, 1) := by decide +kernel
theorem dX4_init_0 : decode cX4_init 0 = .ok (.aload_n 0, 1) := by decide +kernel
theorem dX4_init_1 : decode cX4_init 1 = .ok (.invokespecial 1, 3) := by decide +kernel
theorem dX4_init_4 : decode cX4_init 4 = .ok (.aload_n 0, 1) := by decide +kernel
theorem dX4_init_5 : decode cX4_init 5 = .ok (.bipush 123, 2) := by decide +kernel
theorem dX4_init_7 : decode cX4_init 7 = .ok (.newarray .int, 2) := by decide +kernel
theorem dX4_init_9 : decode cX4_init 9 = .ok (.putfield 7, 3) := by decide +kernel
theorem dX4_init_12 : decode cX4_init 12 = .ok (.aload_n 0, 1) := by decide +kernel
theorem dX4_init_13 : decode cX4_init 13 = .ok (.bipush 123, 2) := by decide +kernel
theorem dX4_init_15 : decode cX4_init 15 = .ok (.newarray .int, 2) := by decide +kernel
theorem dX4_init_17 : decode cX4_init 17 = .ok (.putfield 13, 3) := by decide +kernel
theorem dX4_init_20 : decode cX4_init 20 = .ok (.aload_n 0, 1) := by decide +kernel
theorem dX4_init_21 : decode cX4_init 21 = .ok (.bipush 123, 2) := by decide +kernel
theorem dX4_init_23 : decode cX4_init 23 = .ok (.newarray .int, 2) := by decide +kernel
theorem dX4_init_25 : decode cX4_init 25 = .ok (.putfield 16, 3) := by decide +kernel
theorem dX4_init_28 : decode cX4_init 28 = .ok (.aload_n 0, 1) := by decide +kernel
theorem dX4_init_29 : decode cX4_init 29 = .ok (.bipush 123, 2) := by decide +kernel
theorem dX4_init_31 : decode cX4_init 31 = .ok (.newarray .int, 2) := by decide +kernel
theorem dX4_init_33 : decode cX4_init 33 = .ok (.putfield 19, 3) := by decide +kernel
theorem dX4_init_36 : decode cX4_init 36 = .ok (.aload_n 0, 1) := by decide +kernel
theorem dX4_init_37 : decode cX4_init 37 = .ok (.bipush 7, 2) := by decide +kernel
theorem dX4_init_39 : decode cX4_init 39 = .ok (.newarray .int, 2) := by decide +kernel
theorem dX4_init_41 : decode cX4_init 41 = .ok (.putfield 22, 3) := by decide +kernel
theorem dX4_init_44 : decode cX4_init 44 = .ok (.aload_n 0, 1) := by decide +kernel
theorem dX4_init_45 : decode cX4_init 45 = .ok (.iconst (-1), 1) := by decide +kernel
theorem dX4_init_46 : decode cX4_init 46 = .ok (.putfield 25, 3) := by decide +kernel
theorem dX4_init_49 : decode cX4_init 49 = .ok (.aload_n 0, 1) := by decide +kernel
theorem dX4_init_50 : decode cX4_init 50 = .ok (.bipush 48, 2) := by decide +kernel
theorem dX4_init_52 : decode cX4_init 52 = .ok (.newarray .int, 2) := by decide +kernel
theorem dX4_init_54 : decode cX4_init 54 = .ok (.putfield 29, 3) := by decide +kernel
theorem dX4_init_57 : decode cX4_init 57 = .ok (.aload_n 0, 1) := by decide +kernel
theorem dX4_init_58 : decode cX4_init 58 = .ok (.bipush 120, 2) := by decide +kernel
theorem dX4_init_60 : decode cX4_init 60 = .ok (.newarray .int, 2) := by decide +kernel
theorem dX4_init_62 : decode cX4_init 62 = .ok (.putfield 32, 3) := by decide +kernel
theorem dX4_init_65 : decode cX4_init 65 = .ok (.aload_n 0, 1) := by decide +kernel
theorem dX4_init_66 : decode cX4_init 66 = .ok (.iconst 4, 1) := by decide +kernel
theorem dX4_init_67 : decode cX4_init 67 = .ok (.newarray .int, 2) := by decide +kernel
theorem dX4_init_69 : decode cX4_init 69 = .ok (.putfield 35, 3) := by decide +kernel
theorem dX4_init_72 : decode cX4_init 72 = .ok (.aload_n 0, 1) := by decide +kernel
theorem dX4_init_73 : decode cX4_init 73 = .ok (.iconst 4, 1) := by decide +kernel
theorem dX4_init_74 : decode cX4_init 74 = .ok (.newarray .int, 2) := by decide +kernel
theorem dX4_init_76 : decode cX4_init 76 = .ok (.putfield 38, 3) := by decide +kernel
theorem dX4_init_79 : decode cX4_init 79 = .ok (.aload_n 0, 1) := by decide +kernel
theorem dX4_init_80 : decode cX4_init 80 = .ok (.sipush 160, 3) := by decide +kernel
theorem dX4_init_83 : decode cX4_init 83 = .ok (.newarray .long, 2) := by decide +kernel
theorem dX4_init_85 : decode cX4_init 85 = .ok (.putfield 41, 3) := by decide +kernel
theorem dX4_init_88 : decode cX4_init 88 = .ok (.aload_n 0, 1) := by decide +kernel
theorem dX4_init_89 : decode cX4_init 89 = .ok (.bipush 40, 2) := by decide +kernel
theorem dX4_init_91 : decode cX4_init 91 = .ok (.newarray .long, 2) := by decide +kernel
theorem dX4_init_93 : decode cX4_init 93 = .ok (.putfield 45, 3) := by decide +kernel
theorem dX4_init_96 : decode cX4_init 96 = .ok (.aload_n 0, 1) := by decide +kernel
theorem dX4_init_97 : decode cX4_init 97 = .ok (.getfield 7, 3) := by decide +kernel
theorem dX4_init_100 : decode cX4_init 100 = .ok (.iconst 2, 1) := by decide +kernel
theorem dX4_init_101 : decode cX4_init 101 = .ok (.iconst 2, 1) := by decide +kernel
theorem dX4_init_102 : decode cX4_init 102 = .ok (.iastore, 1) := by decide +kernel
theorem dX4_init_103 : decode cX4_init 103 = .ok (.return_, 1) := by decide +kernel
theorem dX4_in_0 : decode cX4_in 0 = .ok (.lload_n 0, 1) := by decide +kernel
theorem dX4_in_1 : decode cX4_in 1 = .ok (.lload_n 2, 1) := by decide +kernel
theorem dX4_in_2 : decode cX4_in 2 = .ok (.lcmp, 1) := by decide +kernel
theorem dX4_in_3 : decode cX4_in 3 = .ok (.ifCond .lt 14, 3) := by decide +kernel
theorem dX4_in_6 : decode cX4_in 6 = .ok (.lload_n 0, 1) := by decide +kernel
theorem dX4_in_7 : decode cX4_in 7 = .ok (.lload 4, 2) := by decide +kernel
theorem dX4_in_9 : decode cX4_in 9 = .ok (.lcmp, 1) := by decide +kernel
theorem dX4_in_10 : decode cX4_in 10 = .ok (.ifCond .gt 7, 3) := by decide +kernel
theorem dX4_in_13 : decode cX4_in 13 = .ok (.iconst 1, 1) := by decide +kernel
theorem dX4_in_14 : decode cX4_in 14 = .ok (.goto 4, 3) := by decide +kernel
theorem dX4_in_17 : decode cX4_in 17 = .ok (.iconst 0, 1) := by decide +kernel
theorem dX4_in_18 : decode cX4_in 18 = .ok (.ireturn, 1) := by decide +kernel
theorem dX4_finds_0 : decode cX4_finds 0 = .ok (.aload_n 0, 1) := by decide +kernel
theorem dX4_finds_1 : decode cX4_finds 1 = .ok (.getfield 22, 3) := by decide +kernel
theorem dX4_finds_4 : decode cX4_finds 4 = .ok (.ldc 48, 2) := by decide +kernel
theorem dX4_finds_6 : decode cX4_finds 6 = .ok (.iload_n 1, 1) := by decide +kernel
theorem dX4_finds_7 : decode cX4_finds 7 = .ok (.isub, 1) := by decide +kernel
theorem dX4_finds_8 : decode cX4_finds 8 = .ok (.dup2, 1) := by decide +kernel
theorem dX4_finds_9 : decode cX4_finds 9 = .ok (.iaload, 1) := by decide +kernel
theorem dX4_finds_10 : decode cX4_finds 10 = .ok (.iconst 1, 1) := by decide +kernel
theorem dX4_finds_11 : decode cX4_finds 11 = .ok (.iadd, 1) := by decide +kernel
theorem dX4_finds_12 : decode cX4_finds 12 = .ok (.iastore, 1) := by decide +kernel
theorem dX4_finds_13 : decode cX4_finds 13 = .ok (.iload_n 1, 1) := by decide +kernel
theorem dX4_finds_14 : decode cX4_finds 14 = .ok (.ireturn, 1) := by decide +kernel
theorem dX4_saves_0 : decode cX4_saves 0 = .ok (.iconst 0, 1) := by decide +kernel
theorem dX4_saves_1 : decode cX4_saves 1 = .ok (.istore_n 1, 1) := by decide +kernel
theorem dX4_saves_2 : decode cX4_saves 2 = .ok (.iload_n 1, 1) := by decide +kernel
theorem dX4_saves_3 : decode cX4_saves 3 = .ok (.bipush 123, 2) := by decide +kernel
theorem dX4_saves_5 : decode cX4_saves 5 = .ok (.if_icmp .ge 21, 3) := by decide +kernel
theorem dX4_saves_8 : decode cX4_saves 8 = .ok (.aload_n 0, 1) := by decide +kernel
theorem dX4_saves_9 : decode cX4_saves 9 = .ok (.getfield 16, 3) := by decide +kernel
theorem dX4_saves_12 : decode cX4_saves 12 = .ok (.iload_n 1, 1) := by decide +kernel
theorem dX4_saves_13 : decode cX4_saves 13 = .ok (.aload_n 0, 1) := by decide +kernel
theorem dX4_saves_14 : decode cX4_saves 14 = .ok (.getfield 7, 3) := by decide +kernel
theorem dX4_saves_17 : decode cX4_saves 17 = .ok (.iload_n 1, 1) := by decide +kernel
theorem dX4_saves_18 : decode cX4_saves 18 = .ok (.iaload, 1) := by decide +kernel
theorem dX4_saves_19 : decode cX4_saves 19 = .ok (.iastore, 1) := by decide +kernel
theorem dX4_saves_20 : decode cX4_saves 20 = .ok (.iinc 1 1, 3) := by decide +kernel
theorem dX4_saves_23 : decode cX4_saves 23 = .ok (.goto (-21), 3) := by decide +kernel
theorem dX4_saves_26 : decode cX4_saves 26 = .ok (.return_, 1) := by decide +kernel
theorem dX4_putsBack_0 : decode cX4_putsBack 0 = .ok (.iconst 0, 1) := by decide +kernel
theorem dX4_putsBack_1 : decode cX4_putsBack 1 = .ok (.istore_n 1, 1) := by decide +kernel
theorem dX4_putsBack_2 : decode cX4_putsBack 2 = .ok (.iload_n 1, 1) := by decide +kernel
theorem dX4_putsBack_3 : decode cX4_putsBack 3 = .ok (.bipush 123, 2) := by decide +kernel
theorem dX4_putsBack_5 : decode cX4_putsBack 5 = .ok (.if_icmp .ge 21, 3) := by decide +kernel
theorem dX4_putsBack_8 : decode cX4_putsBack 8 = .ok (.aload_n 0, 1) := by decide +kernel
theorem dX4_putsBack_9 : decode cX4_putsBack 9 = .ok (.getfield 7, 3) := by decide +kernel
theorem dX4_putsBack_12 : decode cX4_putsBack 12 = .ok (.iload_n 1, 1) := by decide +kernel
theorem dX4_putsBack_13 : decode cX4_putsBack 13 = .ok (.aload_n 0, 1) := by decide +kernel
theorem dX4_putsBack_14 : decode cX4_putsBack 14 = .ok (.getfield 16, 3) := by decide +kernel
theorem dX4_putsBack_17 : decode cX4_putsBack 17 = .ok (.iload_n 1, 1) := by decide +kernel
theorem dX4_putsBack_18 : decode cX4_putsBack 18 = .ok (.iaload, 1) := by decide +kernel
theorem dX4_putsBack_19 : decode cX4_putsBack 19 = .ok (.iastore, 1) := by decide +kernel
theorem dX4_putsBack_20 : decode cX4_putsBack 20 = .ok (.iinc 1 1, 3) := by decide +kernel
theorem dX4_putsBack_23 : decode cX4_putsBack 23 = .ok (.goto (-21), 3) := by decide +kernel
theorem dX4_putsBack_26 : decode cX4_putsBack 26 = .ok (.return_, 1) := by decide +kernel
theorem dX4_laysAside_0 : decode cX4_laysAside 0 = .ok (.iconst 0, 1) := by decide +kernel
theorem dX4_laysAside_1 : decode cX4_laysAside 1 = .ok (.istore_n 1, 1) := by decide +kernel
theorem dX4_laysAside_2 : decode cX4_laysAside 2 = .ok (.iload_n 1, 1) := by decide +kernel
theorem dX4_laysAside_3 : decode cX4_laysAside 3 = .ok (.bipush 123, 2) := by decide +kernel
theorem dX4_laysAside_5 : decode cX4_laysAside 5 = .ok (.if_icmp .ge 21, 3) := by decide +kernel
theorem dX4_laysAside_8 : decode cX4_laysAside 8 = .ok (.aload_n 0, 1) := by decide +kernel
theorem dX4_laysAside_9 : decode cX4_laysAside 9 = .ok (.getfield 19, 3) := by decide +kernel
theorem dX4_laysAside_12 : decode cX4_laysAside 12 = .ok (.iload_n 1, 1) := by decide +kernel
theorem dX4_laysAside_13 : decode cX4_laysAside 13 = .ok (.aload_n 0, 1) := by decide +kernel
theorem dX4_laysAside_14 : decode cX4_laysAside 14 = .ok (.getfield 7, 3) := by decide +kernel
theorem dX4_laysAside_17 : decode cX4_laysAside 17 = .ok (.iload_n 1, 1) := by decide +kernel
theorem dX4_laysAside_18 : decode cX4_laysAside 18 = .ok (.iaload, 1) := by decide +kernel
theorem dX4_laysAside_19 : decode cX4_laysAside 19 = .ok (.iastore, 1) := by decide +kernel
theorem dX4_laysAside_20 : decode cX4_laysAside 20 = .ok (.iinc 1 1, 3) := by decide +kernel
theorem dX4_laysAside_23 : decode cX4_laysAside 23 = .ok (.goto (-21), 3) := by decide +kernel
theorem dX4_laysAside_26 : decode cX4_laysAside 26 = .ok (.return_, 1) := by decide +kernel
theorem dX4_takesBack_0 : decode cX4_takesBack 0 = .ok (.iconst 0, 1) := by decide +kernel
theorem dX4_takesBack_1 : decode cX4_takesBack 1 = .ok (.istore_n 2, 1) := by decide +kernel
theorem dX4_takesBack_2 : decode cX4_takesBack 2 = .ok (.iload_n 2, 1) := by decide +kernel
theorem dX4_takesBack_3 : decode cX4_takesBack 3 = .ok (.bipush 123, 2) := by decide +kernel
theorem dX4_takesBack_5 : decode cX4_takesBack 5 = .ok (.if_icmp .ge 21, 3) := by decide +kernel
theorem dX4_takesBack_8 : decode cX4_takesBack 8 = .ok (.aload_n 0, 1) := by decide +kernel
theorem dX4_takesBack_9 : decode cX4_takesBack 9 = .ok (.getfield 7, 3) := by decide +kernel
theorem dX4_takesBack_12 : decode cX4_takesBack 12 = .ok (.iload_n 2, 1) := by decide +kernel
theorem dX4_takesBack_13 : decode cX4_takesBack 13 = .ok (.aload_n 0, 1) := by decide +kernel
theorem dX4_takesBack_14 : decode cX4_takesBack 14 = .ok (.getfield 19, 3) := by decide +kernel
theorem dX4_takesBack_17 : decode cX4_takesBack 17 = .ok (.iload_n 2, 1) := by decide +kernel
theorem dX4_takesBack_18 : decode cX4_takesBack 18 = .ok (.iaload, 1) := by decide +kernel
theorem dX4_takesBack_19 : decode cX4_takesBack 19 = .ok (.iastore, 1) := by decide +kernel
theorem dX4_takesBack_20 : decode cX4_takesBack 20 = .ok (.iinc 2 1, 3) := by decide +kernel
theorem dX4_takesBack_23 : decode cX4_takesBack 23 = .ok (.goto (-21), 3) := by decide +kernel
theorem dX4_takesBack_26 : decode cX4_takesBack 26 = .ok (.iload_n 1, 1) := by decide +kernel
theorem dX4_takesBack_27 : decode cX4_takesBack 27 = .ok (.ireturn, 1) := by decide +kernel
theorem dX4_becomes_0 : decode cX4_becomes 0 = .ok (.aload_n 0, 1) := by decide +kernel
theorem dX4_becomes_1 : decode cX4_becomes 1 = .ok (.getfield 7, 3) := by decide +kernel
theorem dX4_becomes_4 : decode cX4_becomes 4 = .ok (.iload_n 1, 1) := by decide +kernel
theorem dX4_becomes_5 : decode cX4_becomes 5 = .ok (.iaload, 1) := by decide +kernel
theorem dX4_becomes_6 : decode cX4_becomes 6 = .ok (.istore_n 3, 1) := by decide +kernel
theorem dX4_becomes_7 : decode cX4_becomes 7 = .ok (.aload_n 0, 1) := by decide +kernel
theorem dX4_becomes_8 : decode cX4_becomes 8 = .ok (.getfield 7, 3) := by decide +kernel
theorem dX4_becomes_11 : decode cX4_becomes 11 = .ok (.iload_n 1, 1) := by decide +kernel
theorem dX4_becomes_12 : decode cX4_becomes 12 = .ok (.iload_n 2, 1) := by decide +kernel
theorem dX4_becomes_13 : decode cX4_becomes 13 = .ok (.iastore, 1) := by decide +kernel
theorem dX4_becomes_14 : decode cX4_becomes 14 = .ok (.iload_n 3, 1) := by decide +kernel
theorem dX4_becomes_15 : decode cX4_becomes 15 = .ok (.ireturn, 1) := by decide +kernel
theorem dX4_isCell_0 : decode cX4_isCell 0 = .ok (.iload_n 0, 1) := by decide +kernel
theorem dX4_isCell_1 : decode cX4_isCell 1 = .ok (.i2l, 1) := by decide +kernel
theorem dX4_isCell_2 : decode cX4_isCell 2 = .ok (.lconst 0, 1) := by decide +kernel
theorem dX4_isCell_3 : decode cX4_isCell 3 = .ok (.ldc2_w 49, 3) := by decide +kernel
theorem dX4_isCell_6 : decode cX4_isCell 6 = .ok (.invokestatic 51, 3) := by decide +kernel
theorem dX4_isCell_9 : decode cX4_isCell 9 = .ok (.ireturn, 1) := by decide +kernel
theorem dX4_isMender_0 : decode cX4_isMender 0 = .ok (.iload_n 1, 1) := by decide +kernel
theorem dX4_isMender_1 : decode cX4_isMender 1 = .ok (.i2l, 1) := by decide +kernel
theorem dX4_isMender_2 : decode cX4_isMender 2 = .ok (.lconst 0, 1) := by decide +kernel
theorem dX4_isMender_3 : decode cX4_isMender 3 = .ok (.aload_n 0, 1) := by decide +kernel
theorem dX4_isMender_4 : decode cX4_isMender 4 = .ok (.getfield 7, 3) := by decide +kernel
theorem dX4_isMender_7 : decode cX4_isMender 7 = .ok (.iconst 0, 1) := by decide +kernel
theorem dX4_isMender_8 : decode cX4_isMender 8 = .ok (.iaload, 1) := by decide +kernel
theorem dX4_isMender_9 : decode cX4_isMender 9 = .ok (.iconst 1, 1) := by decide +kernel
theorem dX4_isMender_10 : decode cX4_isMender 10 = .ok (.isub, 1) := by decide +kernel
theorem dX4_isMender_11 : decode cX4_isMender 11 = .ok (.i2l, 1) := by decide +kernel
theorem dX4_isMender_12 : decode cX4_isMender 12 = .ok (.invokestatic 51, 3) := by decide +kernel
theorem dX4_isMender_15 : decode cX4_isMender 15 = .ok (.ireturn, 1) := by decide +kernel
theorem dX4_isKind_0 : decode cX4_isKind 0 = .ok (.iload_n 0, 1) := by decide +kernel
theorem dX4_isKind_1 : decode cX4_isKind 1 = .ok (.i2l, 1) := by decide +kernel
theorem dX4_isKind_2 : decode cX4_isKind 2 = .ok (.lconst 0, 1) := by decide +kernel
theorem dX4_isKind_3 : decode cX4_isKind 3 = .ok (.ldc2_w 55, 3) := by decide +kernel
theorem dX4_isKind_6 : decode cX4_isKind 6 = .ok (.invokestatic 51, 3) := by decide +kernel
theorem dX4_isKind_9 : decode cX4_isKind 9 = .ok (.ireturn, 1) := by decide +kernel
theorem dX4_spot_0 : decode cX4_spot 0 = .ok (.bipush 99, 2) := by decide +kernel
theorem dX4_spot_2 : decode cX4_spot 2 = .ok (.iconst 4, 1) := by decide +kernel
theorem dX4_spot_3 : decode cX4_spot 3 = .ok (.iload_n 0, 1) := by decide +kernel
theorem dX4_spot_4 : decode cX4_spot 4 = .ok (.imul, 1) := by decide +kernel
theorem dX4_spot_5 : decode cX4_spot 5 = .ok (.iadd, 1) := by decide +kernel
theorem dX4_spot_6 : decode cX4_spot 6 = .ok (.iload_n 1, 1) := by decide +kernel
theorem dX4_spot_7 : decode cX4_spot 7 = .ok (.iadd, 1) := by decide +kernel
theorem dX4_spot_8 : decode cX4_spot 8 = .ok (.ireturn, 1) := by decide +kernel
theorem dX4_its_0 : decode cX4_its 0 = .ok (.aload_n 0, 1) := by decide +kernel
theorem dX4_its_1 : decode cX4_its 1 = .ok (.getfield 7, 3) := by decide +kernel
theorem dX4_its_4 : decode cX4_its 4 = .ok (.iload_n 1, 1) := by decide +kernel
theorem dX4_its_5 : decode cX4_its 5 = .ok (.iload_n 2, 1) := by decide +kernel
theorem dX4_its_6 : decode cX4_its 6 = .ok (.invokestatic 57, 3) := by decide +kernel
theorem dX4_its_9 : decode cX4_its 9 = .ok (.iaload, 1) := by decide +kernel
theorem dX4_its_10 : decode cX4_its 10 = .ok (.ireturn, 1) := by decide +kernel
theorem dX4_beside_0 : decode cX4_beside 0 = .ok (.iload_n 0, 1) := by decide +kernel
theorem dX4_beside_1 : decode cX4_beside 1 = .ok (.bipush 8, 2) := by decide +kernel
theorem dX4_beside_3 : decode cX4_beside 3 = .ok (.idiv, 1) := by decide +kernel
theorem dX4_beside_4 : decode cX4_beside 4 = .ok (.istore_n 2, 1) := by decide +kernel
theorem dX4_beside_5 : decode cX4_beside 5 = .ok (.iload_n 0, 1) := by decide +kernel
theorem dX4_beside_6 : decode cX4_beside 6 = .ok (.bipush 8, 2) := by decide +kernel
theorem dX4_beside_8 : decode cX4_beside 8 = .ok (.irem, 1) := by decide +kernel
theorem dX4_beside_9 : decode cX4_beside 9 = .ok (.istore_n 3, 1) := by decide +kernel
theorem dX4_beside_10 : decode cX4_beside 10 = .ok (.iload_n 1, 1) := by decide +kernel
theorem dX4_beside_11 : decode cX4_beside 11 = .ok (.tableswitch 66 0 2 #[25, 38, 52], 25) := by decide +kernel
theorem dX4_beside_36 : decode cX4_beside 36 = .ok (.iload_n 2, 1) := by decide +kernel
theorem dX4_beside_37 : decode cX4_beside 37 = .ok (.ifCond .ne 7, 3) := by decide +kernel
theorem dX4_beside_40 : decode cX4_beside 40 = .ok (.iconst (-1), 1) := by decide +kernel
theorem dX4_beside_41 : decode cX4_beside 41 = .ok (.goto 7, 3) := by decide +kernel
theorem dX4_beside_44 : decode cX4_beside 44 = .ok (.iload_n 0, 1) := by decide +kernel
theorem dX4_beside_45 : decode cX4_beside 45 = .ok (.bipush 8, 2) := by decide +kernel
theorem dX4_beside_47 : decode cX4_beside 47 = .ok (.isub, 1) := by decide +kernel
theorem dX4_beside_48 : decode cX4_beside 48 = .ok (.ireturn, 1) := by decide +kernel
theorem dX4_beside_49 : decode cX4_beside 49 = .ok (.iload_n 3, 1) := by decide +kernel
theorem dX4_beside_50 : decode cX4_beside 50 = .ok (.bipush 7, 2) := by decide +kernel
theorem dX4_beside_52 : decode cX4_beside 52 = .ok (.if_icmp .ne 7, 3) := by decide +kernel
theorem dX4_beside_55 : decode cX4_beside 55 = .ok (.iconst (-1), 1) := by decide +kernel
theorem dX4_beside_56 : decode cX4_beside 56 = .ok (.goto 6, 3) := by decide +kernel
theorem dX4_beside_59 : decode cX4_beside 59 = .ok (.iload_n 0, 1) := by decide +kernel
theorem dX4_beside_60 : decode cX4_beside 60 = .ok (.iconst 1, 1) := by decide +kernel
theorem dX4_beside_61 : decode cX4_beside 61 = .ok (.iadd, 1) := by decide +kernel
theorem dX4_beside_62 : decode cX4_beside 62 = .ok (.ireturn, 1) := by decide +kernel
theorem dX4_beside_63 : decode cX4_beside 63 = .ok (.iload_n 2, 1) := by decide +kernel
theorem dX4_beside_64 : decode cX4_beside 64 = .ok (.iconst 5, 1) := by decide +kernel
theorem dX4_beside_65 : decode cX4_beside 65 = .ok (.if_icmp .ne 7, 3) := by decide +kernel
theorem dX4_beside_68 : decode cX4_beside 68 = .ok (.iconst (-1), 1) := by decide +kernel
theorem dX4_beside_69 : decode cX4_beside 69 = .ok (.goto 7, 3) := by decide +kernel
theorem dX4_beside_72 : decode cX4_beside 72 = .ok (.iload_n 0, 1) := by decide +kernel
theorem dX4_beside_73 : decode cX4_beside 73 = .ok (.bipush 8, 2) := by decide +kernel
theorem dX4_beside_75 : decode cX4_beside 75 = .ok (.iadd, 1) := by decide +kernel
theorem dX4_beside_76 : decode cX4_beside 76 = .ok (.ireturn, 1) := by decide +kernel
theorem dX4_beside_77 : decode cX4_beside 77 = .ok (.iload_n 3, 1) := by decide +kernel
theorem dX4_beside_78 : decode cX4_beside 78 = .ok (.ifCond .ne 7, 3) := by decide +kernel
theorem dX4_beside_81 : decode cX4_beside 81 = .ok (.iconst (-1), 1) := by decide +kernel
theorem dX4_beside_82 : decode cX4_beside 82 = .ok (.goto 6, 3) := by decide +kernel
theorem dX4_beside_85 : decode cX4_beside 85 = .ok (.iload_n 0, 1) := by decide +kernel
theorem dX4_beside_86 : decode cX4_beside 86 = .ok (.iconst 1, 1) := by decide +kernel
theorem dX4_beside_87 : decode cX4_beside 87 = .ok (.isub, 1) := by decide +kernel
theorem dX4_beside_88 : decode cX4_beside 88 = .ok (.ireturn, 1) := by decide +kernel
theorem dX4_apart_0 : decode cX4_apart 0 = .ok (.iload_n 0, 1) := by decide +kernel
theorem dX4_apart_1 : decode cX4_apart 1 = .ok (.bipush 8, 2) := by decide +kernel
theorem dX4_apart_3 : decode cX4_apart 3 = .ok (.idiv, 1) := by decide +kernel
theorem dX4_apart_4 : decode cX4_apart 4 = .ok (.iload_n 1, 1) := by decide +kernel
theorem dX4_apart_5 : decode cX4_apart 5 = .ok (.bipush 8, 2) := by decide +kernel
theorem dX4_apart_7 : decode cX4_apart 7 = .ok (.idiv, 1) := by decide +kernel
theorem dX4_apart_8 : decode cX4_apart 8 = .ok (.isub, 1) := by decide +kernel
theorem dX4_apart_9 : decode cX4_apart 9 = .ok (.istore_n 2, 1) := by decide +kernel
theorem dX4_apart_10 : decode cX4_apart 10 = .ok (.iload_n 0, 1) := by decide +kernel
theorem dX4_apart_11 : decode cX4_apart 11 = .ok (.bipush 8, 2) := by decide +kernel
theorem dX4_apart_13 : decode cX4_apart 13 = .ok (.irem, 1) := by decide +kernel
theorem dX4_apart_14 : decode cX4_apart 14 = .ok (.iload_n 1, 1) := by decide +kernel
theorem dX4_apart_15 : decode cX4_apart 15 = .ok (.bipush 8, 2) := by decide +kernel
theorem dX4_apart_17 : decode cX4_apart 17 = .ok (.irem, 1) := by decide +kernel
theorem dX4_apart_18 : decode cX4_apart 18 = .ok (.isub, 1) := by decide +kernel
theorem dX4_apart_19 : decode cX4_apart 19 = .ok (.istore_n 3, 1) := by decide +kernel
theorem dX4_apart_20 : decode cX4_apart 20 = .ok (.iload_n 2, 1) := by decide +kernel
theorem dX4_apart_21 : decode cX4_apart 21 = .ok (.ifCond .ge 8, 3) := by decide +kernel
theorem dX4_apart_24 : decode cX4_apart 24 = .ok (.iload_n 2, 1) := by decide +kernel
theorem dX4_apart_25 : decode cX4_apart 25 = .ok (.ineg, 1) := by decide +kernel
theorem dX4_apart_26 : decode cX4_apart 26 = .ok (.goto 4, 3) := by decide +kernel
theorem dX4_apart_29 : decode cX4_apart 29 = .ok (.iload_n 2, 1) := by decide +kernel
theorem dX4_apart_30 : decode cX4_apart 30 = .ok (.iload_n 3, 1) := by decide +kernel
theorem dX4_apart_31 : decode cX4_apart 31 = .ok (.ifCond .ge 8, 3) := by decide +kernel
theorem dX4_apart_34 : decode cX4_apart 34 = .ok (.iload_n 3, 1) := by decide +kernel
theorem dX4_apart_35 : decode cX4_apart 35 = .ok (.ineg, 1) := by decide +kernel
theorem dX4_apart_36 : decode cX4_apart 36 = .ok (.goto 4, 3) := by decide +kernel
theorem dX4_apart_39 : decode cX4_apart 39 = .ok (.iload_n 3, 1) := by decide +kernel
theorem dX4_apart_40 : decode cX4_apart 40 = .ok (.iadd, 1) := by decide +kernel
theorem dX4_apart_41 : decode cX4_apart 41 = .ok (.ireturn, 1) := by decide +kernel
theorem dX4_isUntrue_0 : decode cX4_isUntrue 0 = .ok (.aload_n 0, 1) := by decide +kernel
theorem dX4_isUntrue_1 : decode cX4_isUntrue 1 = .ok (.getfield 7, 3) := by decide +kernel
theorem dX4_isUntrue_4 : decode cX4_isUntrue 4 = .ok (.iconst 3, 1) := by decide +kernel
theorem dX4_isUntrue_5 : decode cX4_isUntrue 5 = .ok (.iload_n 1, 1) := by decide +kernel
theorem dX4_isUntrue_6 : decode cX4_isUntrue 6 = .ok (.iadd, 1) := by decide +kernel
theorem dX4_isUntrue_7 : decode cX4_isUntrue 7 = .ok (.iaload, 1) := by decide +kernel
theorem dX4_isUntrue_8 : decode cX4_isUntrue 8 = .ok (.aload_n 0, 1) := by decide +kernel
theorem dX4_isUntrue_9 : decode cX4_isUntrue 9 = .ok (.getfield 7, 3) := by decide +kernel
theorem dX4_isUntrue_12 : decode cX4_isUntrue 12 = .ok (.bipush 51, 2) := by decide +kernel
theorem dX4_isUntrue_14 : decode cX4_isUntrue 14 = .ok (.iload_n 1, 1) := by decide +kernel
theorem dX4_isUntrue_15 : decode cX4_isUntrue 15 = .ok (.iadd, 1) := by decide +kernel
theorem dX4_isUntrue_16 : decode cX4_isUntrue 16 = .ok (.iaload, 1) := by decide +kernel
theorem dX4_isUntrue_17 : decode cX4_isUntrue 17 = .ok (.if_icmp .eq 7, 3) := by decide +kernel
theorem dX4_isUntrue_20 : decode cX4_isUntrue 20 = .ok (.iconst 1, 1) := by decide +kernel
theorem dX4_isUntrue_21 : decode cX4_isUntrue 21 = .ok (.goto 4, 3) := by decide +kernel
theorem dX4_isUntrue_24 : decode cX4_isUntrue 24 = .ok (.iconst 0, 1) := by decide +kernel
theorem dX4_isUntrue_25 : decode cX4_isUntrue 25 = .ok (.ireturn, 1) := by decide +kernel
theorem dX4_wrongMany_0 : decode cX4_wrongMany 0 = .ok (.iconst 0, 1) := by decide +kernel
theorem dX4_wrongMany_1 : decode cX4_wrongMany 1 = .ok (.istore_n 1, 1) := by decide +kernel
theorem dX4_wrongMany_2 : decode cX4_wrongMany 2 = .ok (.iconst 0, 1) := by decide +kernel
theorem dX4_wrongMany_3 : decode cX4_wrongMany 3 = .ok (.istore_n 2, 1) := by decide +kernel
theorem dX4_wrongMany_4 : decode cX4_wrongMany 4 = .ok (.iload_n 2, 1) := by decide +kernel
theorem dX4_wrongMany_5 : decode cX4_wrongMany 5 = .ok (.bipush 48, 2) := by decide +kernel
theorem dX4_wrongMany_7 : decode cX4_wrongMany 7 = .ok (.if_icmp .ge 25, 3) := by decide +kernel
theorem dX4_wrongMany_10 : decode cX4_wrongMany 10 = .ok (.iload_n 1, 1) := by decide +kernel
theorem dX4_wrongMany_11 : decode cX4_wrongMany 11 = .ok (.aload_n 0, 1) := by decide +kernel
theorem dX4_wrongMany_12 : decode cX4_wrongMany 12 = .ok (.iload_n 2, 1) := by decide +kernel
theorem dX4_wrongMany_13 : decode cX4_wrongMany 13 = .ok (.invokevirtual 61, 3) := by decide +kernel
theorem dX4_wrongMany_16 : decode cX4_wrongMany 16 = .ok (.ifCond .eq 7, 3) := by decide +kernel
theorem dX4_wrongMany_19 : decode cX4_wrongMany 19 = .ok (.iconst 1, 1) := by decide +kernel
theorem dX4_wrongMany_20 : decode cX4_wrongMany 20 = .ok (.goto 4, 3) := by decide +kernel
theorem dX4_wrongMany_23 : decode cX4_wrongMany 23 = .ok (.iconst 0, 1) := by decide +kernel
theorem dX4_wrongMany_24 : decode cX4_wrongMany 24 = .ok (.iadd, 1) := by decide +kernel
theorem dX4_wrongMany_25 : decode cX4_wrongMany 25 = .ok (.istore_n 1, 1) := by decide +kernel
theorem dX4_wrongMany_26 : decode cX4_wrongMany 26 = .ok (.iinc 2 1, 3) := by decide +kernel
theorem dX4_wrongMany_29 : decode cX4_wrongMany 29 = .ok (.goto (-25), 3) := by decide +kernel
theorem dX4_wrongMany_32 : decode cX4_wrongMany 32 = .ok (.iload_n 1, 1) := by decide +kernel
theorem dX4_wrongMany_33 : decode cX4_wrongMany 33 = .ok (.ireturn, 1) := by decide +kernel
theorem dX4_wrongBeside_0 : decode cX4_wrongBeside 0 = .ok (.iconst 0, 1) := by decide +kernel
theorem dX4_wrongBeside_1 : decode cX4_wrongBeside 1 = .ok (.istore_n 2, 1) := by decide +kernel
theorem dX4_wrongBeside_2 : decode cX4_wrongBeside 2 = .ok (.iconst 0, 1) := by decide +kernel
theorem dX4_wrongBeside_3 : decode cX4_wrongBeside 3 = .ok (.istore_n 3, 1) := by decide +kernel
theorem dX4_wrongBeside_4 : decode cX4_wrongBeside 4 = .ok (.iload_n 3, 1) := by decide +kernel
theorem dX4_wrongBeside_5 : decode cX4_wrongBeside 5 = .ok (.iconst 4, 1) := by decide +kernel
theorem dX4_wrongBeside_6 : decode cX4_wrongBeside 6 = .ok (.if_icmp .ge 38, 3) := by decide +kernel
theorem dX4_wrongBeside_9 : decode cX4_wrongBeside 9 = .ok (.iload_n 1, 1) := by decide +kernel
theorem dX4_wrongBeside_10 : decode cX4_wrongBeside 10 = .ok (.iload_n 3, 1) := by decide +kernel
theorem dX4_wrongBeside_11 : decode cX4_wrongBeside 11 = .ok (.invokestatic 65, 3) := by decide +kernel
theorem dX4_wrongBeside_14 : decode cX4_wrongBeside 14 = .ok (.istore 4, 2) := by decide +kernel
theorem dX4_wrongBeside_16 : decode cX4_wrongBeside 16 = .ok (.iload_n 2, 1) := by decide +kernel
theorem dX4_wrongBeside_17 : decode cX4_wrongBeside 17 = .ok (.iload 4, 2) := by decide +kernel
theorem dX4_wrongBeside_19 : decode cX4_wrongBeside 19 = .ok (.ifCond .lt 16, 3) := by decide +kernel
theorem dX4_wrongBeside_22 : decode cX4_wrongBeside 22 = .ok (.aload_n 0, 1) := by decide +kernel
theorem dX4_wrongBeside_23 : decode cX4_wrongBeside 23 = .ok (.iload 4, 2) := by decide +kernel
theorem dX4_wrongBeside_25 : decode cX4_wrongBeside 25 = .ok (.invokevirtual 61, 3) := by decide +kernel
theorem dX4_wrongBeside_28 : decode cX4_wrongBeside 28 = .ok (.ifCond .eq 7, 3) := by decide +kernel
theorem dX4_wrongBeside_31 : decode cX4_wrongBeside 31 = .ok (.iconst 1, 1) := by decide +kernel
theorem dX4_wrongBeside_32 : decode cX4_wrongBeside 32 = .ok (.goto 4, 3) := by decide +kernel
theorem dX4_wrongBeside_35 : decode cX4_wrongBeside 35 = .ok (.iconst 0, 1) := by decide +kernel
theorem dX4_wrongBeside_36 : decode cX4_wrongBeside 36 = .ok (.iadd, 1) := by decide +kernel
theorem dX4_wrongBeside_37 : decode cX4_wrongBeside 37 = .ok (.istore_n 2, 1) := by decide +kernel
theorem dX4_wrongBeside_38 : decode cX4_wrongBeside 38 = .ok (.iinc 3 1, 3) := by decide +kernel
theorem dX4_wrongBeside_41 : decode cX4_wrongBeside 41 = .ok (.goto (-37), 3) := by decide +kernel
theorem dX4_wrongBeside_44 : decode cX4_wrongBeside 44 = .ok (.iload_n 2, 1) := by decide +kernel
theorem dX4_wrongBeside_45 : decode cX4_wrongBeside 45 = .ok (.ireturn, 1) := by decide +kernel
theorem dX4_draw_0 : decode cX4_draw 0 = .ok (.iload_n 1, 1) := by decide +kernel
theorem dX4_draw_1 : decode cX4_draw 1 = .ok (.invokestatic 68, 3) := by decide +kernel
theorem dX4_draw_4 : decode cX4_draw 4 = .ok (.ifCond .eq 45, 3) := by decide +kernel
theorem dX4_draw_7 : decode cX4_draw 7 = .ok (.iload_n 2, 1) := by decide +kernel
theorem dX4_draw_8 : decode cX4_draw 8 = .ok (.i2l, 1) := by decide +kernel
theorem dX4_draw_9 : decode cX4_draw 9 = .ok (.lconst 0, 1) := by decide +kernel
theorem dX4_draw_10 : decode cX4_draw 10 = .ok (.lconst 1, 1) := by decide +kernel
theorem dX4_draw_11 : decode cX4_draw 11 = .ok (.invokestatic 51, 3) := by decide +kernel
theorem dX4_draw_14 : decode cX4_draw 14 = .ok (.ifCond .eq 35, 3) := by decide +kernel
theorem dX4_draw_17 : decode cX4_draw 17 = .ok (.iload_n 3, 1) := by decide +kernel
theorem dX4_draw_18 : decode cX4_draw 18 = .ok (.i2l, 1) := by decide +kernel
theorem dX4_draw_19 : decode cX4_draw 19 = .ok (.lconst 0, 1) := by decide +kernel
theorem dX4_draw_20 : decode cX4_draw 20 = .ok (.ldc2_w 55, 3) := by decide +kernel
theorem dX4_draw_23 : decode cX4_draw 23 = .ok (.invokestatic 51, 3) := by decide +kernel
theorem dX4_draw_26 : decode cX4_draw 26 = .ok (.ifCond .eq 23, 3) := by decide +kernel
theorem dX4_draw_29 : decode cX4_draw 29 = .ok (.aload_n 0, 1) := by decide +kernel
theorem dX4_draw_30 : decode cX4_draw 30 = .ok (.iload_n 2, 1) := by decide +kernel
theorem dX4_draw_31 : decode cX4_draw 31 = .ok (.ifCond .ne 7, 3) := by decide +kernel
theorem dX4_draw_34 : decode cX4_draw 34 = .ok (.iconst 3, 1) := by decide +kernel
theorem dX4_draw_35 : decode cX4_draw 35 = .ok (.goto 5, 3) := by decide +kernel
theorem dX4_draw_38 : decode cX4_draw 38 = .ok (.bipush 51, 2) := by decide +kernel
theorem dX4_draw_40 : decode cX4_draw 40 = .ok (.iload_n 1, 1) := by decide +kernel
theorem dX4_draw_41 : decode cX4_draw 41 = .ok (.iadd, 1) := by decide +kernel
theorem dX4_draw_42 : decode cX4_draw 42 = .ok (.iload_n 3, 1) := by decide +kernel
theorem dX4_draw_43 : decode cX4_draw 43 = .ok (.invokevirtual 71, 3) := by decide +kernel
theorem dX4_draw_46 : decode cX4_draw 46 = .ok (.goto 9, 3) := by decide +kernel
theorem dX4_draw_49 : decode cX4_draw 49 = .ok (.aload_n 0, 1) := by decide +kernel
theorem dX4_draw_50 : decode cX4_draw 50 = .ok (.ldc 48, 2) := by decide +kernel
theorem dX4_draw_52 : decode cX4_draw 52 = .ok (.invokevirtual 74, 3) := by decide +kernel
theorem dX4_draw_55 : decode cX4_draw 55 = .ok (.ireturn, 1) := by decide +kernel
theorem dX4_cell_0 : decode cX4_cell 0 = .ok (.iload_n 1, 1) := by decide +kernel
theorem dX4_cell_1 : decode cX4_cell 1 = .ok (.invokestatic 68, 3) := by decide +kernel
theorem dX4_cell_4 : decode cX4_cell 4 = .ok (.ifCond .eq 15, 3) := by decide +kernel
theorem dX4_cell_7 : decode cX4_cell 7 = .ok (.iload_n 2, 1) := by decide +kernel
theorem dX4_cell_8 : decode cX4_cell 8 = .ok (.i2l, 1) := by decide +kernel
theorem dX4_cell_9 : decode cX4_cell 9 = .ok (.lconst 0, 1) := by decide +kernel
theorem dX4_cell_10 : decode cX4_cell 10 = .ok (.ldc2_w 78, 3) := by decide +kernel
theorem dX4_cell_13 : decode cX4_cell 13 = .ok (.invokestatic 51, 3) := by decide +kernel
theorem dX4_cell_16 : decode cX4_cell 16 = .ok (.ifCond .ne 10, 3) := by decide +kernel
theorem dX4_cell_19 : decode cX4_cell 19 = .ok (.aload_n 0, 1) := by decide +kernel
theorem dX4_cell_20 : decode cX4_cell 20 = .ok (.ldc 48, 2) := by decide +kernel
theorem dX4_cell_22 : decode cX4_cell 22 = .ok (.invokevirtual 74, 3) := by decide +kernel
theorem dX4_cell_25 : decode cX4_cell 25 = .ok (.ireturn, 1) := by decide +kernel
theorem dX4_cell_26 : decode cX4_cell 26 = .ok (.iload_n 2, 1) := by decide +kernel
theorem dX4_cell_27 : decode cX4_cell 27 = .ok (.tableswitch 68 0 3 #[29, 38, 48, 62], 29) := by decide +kernel
theorem dX4_cell_56 : decode cX4_cell 56 = .ok (.aload_n 0, 1) := by decide +kernel
theorem dX4_cell_57 : decode cX4_cell 57 = .ok (.getfield 7, 3) := by decide +kernel
theorem dX4_cell_60 : decode cX4_cell 60 = .ok (.iconst 3, 1) := by decide +kernel
theorem dX4_cell_61 : decode cX4_cell 61 = .ok (.iload_n 1, 1) := by decide +kernel
theorem dX4_cell_62 : decode cX4_cell 62 = .ok (.iadd, 1) := by decide +kernel
theorem dX4_cell_63 : decode cX4_cell 63 = .ok (.iaload, 1) := by decide +kernel
theorem dX4_cell_64 : decode cX4_cell 64 = .ok (.ireturn, 1) := by decide +kernel
theorem dX4_cell_65 : decode cX4_cell 65 = .ok (.aload_n 0, 1) := by decide +kernel
theorem dX4_cell_66 : decode cX4_cell 66 = .ok (.getfield 7, 3) := by decide +kernel
theorem dX4_cell_69 : decode cX4_cell 69 = .ok (.bipush 51, 2) := by decide +kernel
theorem dX4_cell_71 : decode cX4_cell 71 = .ok (.iload_n 1, 1) := by decide +kernel
theorem dX4_cell_72 : decode cX4_cell 72 = .ok (.iadd, 1) := by decide +kernel
theorem dX4_cell_73 : decode cX4_cell 73 = .ok (.iaload, 1) := by decide +kernel
theorem dX4_cell_74 : decode cX4_cell 74 = .ok (.ireturn, 1) := by decide +kernel
theorem dX4_cell_75 : decode cX4_cell 75 = .ok (.aload_n 0, 1) := by decide +kernel
theorem dX4_cell_76 : decode cX4_cell 76 = .ok (.iload_n 1, 1) := by decide +kernel
theorem dX4_cell_77 : decode cX4_cell 77 = .ok (.invokevirtual 61, 3) := by decide +kernel
theorem dX4_cell_80 : decode cX4_cell 80 = .ok (.ifCond .eq 7, 3) := by decide +kernel
theorem dX4_cell_83 : decode cX4_cell 83 = .ok (.iconst 1, 1) := by decide +kernel
theorem dX4_cell_84 : decode cX4_cell 84 = .ok (.goto 4, 3) := by decide +kernel
theorem dX4_cell_87 : decode cX4_cell 87 = .ok (.iconst 0, 1) := by decide +kernel
theorem dX4_cell_88 : decode cX4_cell 88 = .ok (.ireturn, 1) := by decide +kernel
theorem dX4_cell_89 : decode cX4_cell 89 = .ok (.aload_n 0, 1) := by decide +kernel
theorem dX4_cell_90 : decode cX4_cell 90 = .ok (.iload_n 1, 1) := by decide +kernel
theorem dX4_cell_91 : decode cX4_cell 91 = .ok (.invokevirtual 80, 3) := by decide +kernel
theorem dX4_cell_94 : decode cX4_cell 94 = .ok (.ireturn, 1) := by decide +kernel
theorem dX4_cell_95 : decode cX4_cell 95 = .ok (.aload_n 0, 1) := by decide +kernel
theorem dX4_cell_96 : decode cX4_cell 96 = .ok (.iload_n 1, 1) := by decide +kernel
theorem dX4_cell_97 : decode cX4_cell 97 = .ok (.invokevirtual 83, 3) := by decide +kernel
theorem dX4_cell_100 : decode cX4_cell 100 = .ok (.ireturn, 1) := by decide +kernel
theorem dX4_thoseAt_0 : decode cX4_thoseAt 0 = .ok (.iconst 0, 1) := by decide +kernel
theorem dX4_thoseAt_1 : decode cX4_thoseAt 1 = .ok (.istore_n 2, 1) := by decide +kernel
theorem dX4_thoseAt_2 : decode cX4_thoseAt 2 = .ok (.iconst 0, 1) := by decide +kernel
theorem dX4_thoseAt_3 : decode cX4_thoseAt 3 = .ok (.istore_n 3, 1) := by decide +kernel
theorem dX4_thoseAt_4 : decode cX4_thoseAt 4 = .ok (.iload_n 3, 1) := by decide +kernel
theorem dX4_thoseAt_5 : decode cX4_thoseAt 5 = .ok (.aload_n 0, 1) := by decide +kernel
theorem dX4_thoseAt_6 : decode cX4_thoseAt 6 = .ok (.getfield 7, 3) := by decide +kernel
theorem dX4_thoseAt_9 : decode cX4_thoseAt 9 = .ok (.iconst 0, 1) := by decide +kernel
theorem dX4_thoseAt_10 : decode cX4_thoseAt 10 = .ok (.iaload, 1) := by decide +kernel
theorem dX4_thoseAt_11 : decode cX4_thoseAt 11 = .ok (.if_icmp .ge 29, 3) := by decide +kernel
theorem dX4_thoseAt_14 : decode cX4_thoseAt 14 = .ok (.iload_n 2, 1) := by decide +kernel
theorem dX4_thoseAt_15 : decode cX4_thoseAt 15 = .ok (.aload_n 0, 1) := by decide +kernel
theorem dX4_thoseAt_16 : decode cX4_thoseAt 16 = .ok (.iload_n 3, 1) := by decide +kernel
theorem dX4_thoseAt_17 : decode cX4_thoseAt 17 = .ok (.iconst 1, 1) := by decide +kernel
theorem dX4_thoseAt_18 : decode cX4_thoseAt 18 = .ok (.invokevirtual 86, 3) := by decide +kernel
theorem dX4_thoseAt_21 : decode cX4_thoseAt 21 = .ok (.iload_n 1, 1) := by decide +kernel
theorem dX4_thoseAt_22 : decode cX4_thoseAt 22 = .ok (.if_icmp .ne 9, 3) := by decide +kernel
theorem dX4_thoseAt_25 : decode cX4_thoseAt 25 = .ok (.iconst 1, 1) := by decide +kernel
theorem dX4_thoseAt_26 : decode cX4_thoseAt 26 = .ok (.iload_n 3, 1) := by decide +kernel
theorem dX4_thoseAt_27 : decode cX4_thoseAt 27 = .ok (.ishl, 1) := by decide +kernel
theorem dX4_thoseAt_28 : decode cX4_thoseAt 28 = .ok (.goto 4, 3) := by decide +kernel
theorem dX4_thoseAt_31 : decode cX4_thoseAt 31 = .ok (.iconst 0, 1) := by decide +kernel
theorem dX4_thoseAt_32 : decode cX4_thoseAt 32 = .ok (.ior, 1) := by decide +kernel
theorem dX4_thoseAt_33 : decode cX4_thoseAt 33 = .ok (.istore_n 2, 1) := by decide +kernel
theorem dX4_thoseAt_34 : decode cX4_thoseAt 34 = .ok (.iinc 3 1, 3) := by decide +kernel
theorem dX4_thoseAt_37 : decode cX4_thoseAt 37 = .ok (.goto (-33), 3) := by decide +kernel
theorem dX4_thoseAt_40 : decode cX4_thoseAt 40 = .ok (.iload_n 2, 1) := by decide +kernel
theorem dX4_thoseAt_41 : decode cX4_thoseAt 41 = .ok (.ireturn, 1) := by decide +kernel
theorem dX4_cells_0 : decode cX4_cells 0 = .ok (.iload_n 1, 1) := by decide +kernel
theorem dX4_cells_1 : decode cX4_cells 1 = .ok (.i2l, 1) := by decide +kernel
theorem dX4_cells_2 : decode cX4_cells 2 = .ok (.lconst 0, 1) := by decide +kernel
theorem dX4_cells_3 : decode cX4_cells 3 = .ok (.ldc2_w 89, 3) := by decide +kernel
theorem dX4_cells_6 : decode cX4_cells 6 = .ok (.invokestatic 51, 3) := by decide +kernel
theorem dX4_cells_9 : decode cX4_cells 9 = .ok (.ifCond .ne 11, 3) := by decide +kernel
theorem dX4_cells_12 : decode cX4_cells 12 = .ok (.aload_n 0, 1) := by decide +kernel
theorem dX4_cells_13 : decode cX4_cells 13 = .ok (.ldc 48, 2) := by decide +kernel
theorem dX4_cells_15 : decode cX4_cells 15 = .ok (.invokevirtual 74, 3) := by decide +kernel
theorem dX4_cells_18 : decode cX4_cells 18 = .ok (.i2l, 1) := by decide +kernel
theorem dX4_cells_19 : decode cX4_cells 19 = .ok (.lreturn, 1) := by decide +kernel
theorem dX4_cells_20 : decode cX4_cells 20 = .ok (.lconst 0, 1) := by decide +kernel
theorem dX4_cells_21 : decode cX4_cells 21 = .ok (.lstore_n 2, 1) := by decide +kernel
theorem dX4_cells_22 : decode cX4_cells 22 = .ok (.iconst 0, 1) := by decide +kernel
theorem dX4_cells_23 : decode cX4_cells 23 = .ok (.istore 4, 2) := by decide +kernel
theorem dX4_cells_25 : decode cX4_cells 25 = .ok (.iload 4, 2) := by decide +kernel
theorem dX4_cells_27 : decode cX4_cells 27 = .ok (.bipush 48, 2) := by decide +kernel
theorem dX4_cells_29 : decode cX4_cells 29 = .ok (.if_icmp .ge 51, 3) := by decide +kernel
theorem dX4_cells_32 : decode cX4_cells 32 = .ok (.lload_n 2, 1) := by decide +kernel
theorem dX4_cells_33 : decode cX4_cells 33 = .ok (.iload_n 1, 1) := by decide +kernel
theorem dX4_cells_34 : decode cX4_cells 34 = .ok (.ifCond .ne 15, 3) := by decide +kernel
theorem dX4_cells_37 : decode cX4_cells 37 = .ok (.aload_n 0, 1) := by decide +kernel
theorem dX4_cells_38 : decode cX4_cells 38 = .ok (.iload 4, 2) := by decide +kernel
theorem dX4_cells_40 : decode cX4_cells 40 = .ok (.invokevirtual 61, 3) := by decide +kernel
theorem dX4_cells_43 : decode cX4_cells 43 = .ok (.ifCond .eq 28, 3) := by decide +kernel
theorem dX4_cells_46 : decode cX4_cells 46 = .ok (.goto 18, 3) := by decide +kernel
theorem dX4_cells_49 : decode cX4_cells 49 = .ok (.aload_n 0, 1) := by decide +kernel
theorem dX4_cells_50 : decode cX4_cells 50 = .ok (.getfield 7, 3) := by decide +kernel
theorem dX4_cells_53 : decode cX4_cells 53 = .ok (.iconst 3, 1) := by decide +kernel
theorem dX4_cells_54 : decode cX4_cells 54 = .ok (.iload 4, 2) := by decide +kernel
theorem dX4_cells_56 : decode cX4_cells 56 = .ok (.iadd, 1) := by decide +kernel
theorem dX4_cells_57 : decode cX4_cells 57 = .ok (.iaload, 1) := by decide +kernel
theorem dX4_cells_58 : decode cX4_cells 58 = .ok (.iload_n 1, 1) := by decide +kernel
theorem dX4_cells_59 : decode cX4_cells 59 = .ok (.iconst 1, 1) := by decide +kernel
theorem dX4_cells_60 : decode cX4_cells 60 = .ok (.isub, 1) := by decide +kernel
theorem dX4_cells_61 : decode cX4_cells 61 = .ok (.if_icmp .ne 10, 3) := by decide +kernel
theorem dX4_cells_64 : decode cX4_cells 64 = .ok (.lconst 1, 1) := by decide +kernel
theorem dX4_cells_65 : decode cX4_cells 65 = .ok (.iload 4, 2) := by decide +kernel
theorem dX4_cells_67 : decode cX4_cells 67 = .ok (.lshl, 1) := by decide +kernel
theorem dX4_cells_68 : decode cX4_cells 68 = .ok (.goto 4, 3) := by decide +kernel
theorem dX4_cells_71 : decode cX4_cells 71 = .ok (.lconst 0, 1) := by decide +kernel
theorem dX4_cells_72 : decode cX4_cells 72 = .ok (.lor, 1) := by decide +kernel
theorem dX4_cells_73 : decode cX4_cells 73 = .ok (.lstore_n 2, 1) := by decide +kernel
theorem dX4_cells_74 : decode cX4_cells 74 = .ok (.iinc 4 1, 3) := by decide +kernel
theorem dX4_cells_77 : decode cX4_cells 77 = .ok (.goto (-52), 3) := by decide +kernel
theorem dX4_cells_80 : decode cX4_cells 80 = .ok (.lload_n 2, 1) := by decide +kernel
theorem dX4_cells_81 : decode cX4_cells 81 = .ok (.lreturn, 1) := by decide +kernel
theorem dX4_income_0 : decode cX4_income 0 = .ok (.iload_n 1, 1) := by decide +kernel
theorem dX4_income_1 : decode cX4_income 1 = .ok (.i2l, 1) := by decide +kernel
theorem dX4_income_2 : decode cX4_income 2 = .ok (.lconst 0, 1) := by decide +kernel
theorem dX4_income_3 : decode cX4_income 3 = .ok (.ldc2_w 91, 3) := by decide +kernel
theorem dX4_income_6 : decode cX4_income 6 = .ok (.invokestatic 51, 3) := by decide +kernel
theorem dX4_income_9 : decode cX4_income 9 = .ok (.ifCond .eq 12, 3) := by decide +kernel
theorem dX4_income_12 : decode cX4_income 12 = .ok (.aload_n 0, 1) := by decide +kernel
theorem dX4_income_13 : decode cX4_income 13 = .ok (.iconst 2, 1) := by decide +kernel
theorem dX4_income_14 : decode cX4_income 14 = .ok (.iload_n 1, 1) := by decide +kernel
theorem dX4_income_15 : decode cX4_income 15 = .ok (.invokevirtual 71, 3) := by decide +kernel
theorem dX4_income_18 : decode cX4_income 18 = .ok (.goto 9, 3) := by decide +kernel
theorem dX4_income_21 : decode cX4_income 21 = .ok (.aload_n 0, 1) := by decide +kernel
theorem dX4_income_22 : decode cX4_income 22 = .ok (.ldc 48, 2) := by decide +kernel
theorem dX4_income_24 : decode cX4_income 24 = .ok (.invokevirtual 74, 3) := by decide +kernel
theorem dX4_income_27 : decode cX4_income 27 = .ok (.ireturn, 1) := by decide +kernel
theorem dX4_adds_0 : decode cX4_adds 0 = .ok (.aload_n 0, 1) := by decide +kernel
theorem dX4_adds_1 : decode cX4_adds 1 = .ok (.getfield 7, 3) := by decide +kernel
theorem dX4_adds_4 : decode cX4_adds 4 = .ok (.iconst 0, 1) := by decide +kernel
theorem dX4_adds_5 : decode cX4_adds 5 = .ok (.iaload, 1) := by decide +kernel
theorem dX4_adds_6 : decode cX4_adds 6 = .ok (.istore_n 3, 1) := by decide +kernel
theorem dX4_adds_7 : decode cX4_adds 7 = .ok (.aload_n 0, 1) := by decide +kernel
theorem dX4_adds_8 : decode cX4_adds 8 = .ok (.getfield 7, 3) := by decide +kernel
theorem dX4_adds_11 : decode cX4_adds 11 = .ok (.iload_n 3, 1) := by decide +kernel
theorem dX4_adds_12 : decode cX4_adds 12 = .ok (.iconst 0, 1) := by decide +kernel
theorem dX4_adds_13 : decode cX4_adds 13 = .ok (.invokestatic 57, 3) := by decide +kernel
theorem dX4_adds_16 : decode cX4_adds 16 = .ok (.iload_n 1, 1) := by decide +kernel
theorem dX4_adds_17 : decode cX4_adds 17 = .ok (.iastore, 1) := by decide +kernel
theorem dX4_adds_18 : decode cX4_adds 18 = .ok (.aload_n 0, 1) := by decide +kernel
theorem dX4_adds_19 : decode cX4_adds 19 = .ok (.getfield 7, 3) := by decide +kernel
theorem dX4_adds_22 : decode cX4_adds 22 = .ok (.iload_n 3, 1) := by decide +kernel
theorem dX4_adds_23 : decode cX4_adds 23 = .ok (.iconst 1, 1) := by decide +kernel
theorem dX4_adds_24 : decode cX4_adds 24 = .ok (.invokestatic 57, 3) := by decide +kernel
theorem dX4_adds_27 : decode cX4_adds 27 = .ok (.iload_n 2, 1) := by decide +kernel
theorem dX4_adds_28 : decode cX4_adds 28 = .ok (.iastore, 1) := by decide +kernel
theorem dX4_adds_29 : decode cX4_adds 29 = .ok (.aload_n 0, 1) := by decide +kernel
theorem dX4_adds_30 : decode cX4_adds 30 = .ok (.getfield 7, 3) := by decide +kernel
theorem dX4_adds_33 : decode cX4_adds 33 = .ok (.iload_n 3, 1) := by decide +kernel
theorem dX4_adds_34 : decode cX4_adds 34 = .ok (.iconst 2, 1) := by decide +kernel
theorem dX4_adds_35 : decode cX4_adds 35 = .ok (.invokestatic 57, 3) := by decide +kernel
theorem dX4_adds_38 : decode cX4_adds 38 = .ok (.bipush 50, 2) := by decide +kernel
theorem dX4_adds_40 : decode cX4_adds 40 = .ok (.iastore, 1) := by decide +kernel
theorem dX4_adds_41 : decode cX4_adds 41 = .ok (.aload_n 0, 1) := by decide +kernel
theorem dX4_adds_42 : decode cX4_adds 42 = .ok (.getfield 7, 3) := by decide +kernel
theorem dX4_adds_45 : decode cX4_adds 45 = .ok (.iload_n 3, 1) := by decide +kernel
theorem dX4_adds_46 : decode cX4_adds 46 = .ok (.iconst 3, 1) := by decide +kernel
theorem dX4_adds_47 : decode cX4_adds 47 = .ok (.invokestatic 57, 3) := by decide +kernel
theorem dX4_adds_50 : decode cX4_adds 50 = .ok (.iconst 0, 1) := by decide +kernel
theorem dX4_adds_51 : decode cX4_adds 51 = .ok (.iastore, 1) := by decide +kernel
theorem dX4_adds_52 : decode cX4_adds 52 = .ok (.aload_n 0, 1) := by decide +kernel
theorem dX4_adds_53 : decode cX4_adds 53 = .ok (.getfield 7, 3) := by decide +kernel
theorem dX4_adds_56 : decode cX4_adds 56 = .ok (.iconst 0, 1) := by decide +kernel
theorem dX4_adds_57 : decode cX4_adds 57 = .ok (.dup2, 1) := by decide +kernel
theorem dX4_adds_58 : decode cX4_adds 58 = .ok (.iaload, 1) := by decide +kernel
theorem dX4_adds_59 : decode cX4_adds 59 = .ok (.iconst 1, 1) := by decide +kernel
theorem dX4_adds_60 : decode cX4_adds 60 = .ok (.iadd, 1) := by decide +kernel
theorem dX4_adds_61 : decode cX4_adds 61 = .ok (.iastore, 1) := by decide +kernel
theorem dX4_adds_62 : decode cX4_adds 62 = .ok (.iload_n 3, 1) := by decide +kernel
theorem dX4_adds_63 : decode cX4_adds 63 = .ok (.ireturn, 1) := by decide +kernel
theorem dX4_mender_0 : decode cX4_mender 0 = .ok (.iload_n 1, 1) := by decide +kernel
theorem dX4_mender_1 : decode cX4_mender 1 = .ok (.invokestatic 93, 3) := by decide +kernel
theorem dX4_mender_4 : decode cX4_mender 4 = .ok (.ifCond .eq 10, 3) := by decide +kernel
theorem dX4_mender_7 : decode cX4_mender 7 = .ok (.iload_n 2, 1) := by decide +kernel
theorem dX4_mender_8 : decode cX4_mender 8 = .ok (.invokestatic 68, 3) := by decide +kernel
theorem dX4_mender_11 : decode cX4_mender 11 = .ok (.ifCond .ne 10, 3) := by decide +kernel
theorem dX4_mender_14 : decode cX4_mender 14 = .ok (.aload_n 0, 1) := by decide +kernel
theorem dX4_mender_15 : decode cX4_mender 15 = .ok (.ldc 48, 2) := by decide +kernel
theorem dX4_mender_17 : decode cX4_mender 17 = .ok (.invokevirtual 74, 3) := by decide +kernel
theorem dX4_mender_20 : decode cX4_mender 20 = .ok (.ireturn, 1) := by decide +kernel
theorem dX4_mender_21 : decode cX4_mender 21 = .ok (.aload_n 0, 1) := by decide +kernel
theorem dX4_mender_22 : decode cX4_mender 22 = .ok (.getfield 7, 3) := by decide +kernel
theorem dX4_mender_25 : decode cX4_mender 25 = .ok (.iconst 0, 1) := by decide +kernel
theorem dX4_mender_26 : decode cX4_mender 26 = .ok (.iaload, 1) := by decide +kernel
theorem dX4_mender_27 : decode cX4_mender 27 = .ok (.bipush 6, 2) := by decide +kernel
theorem dX4_mender_29 : decode cX4_mender 29 = .ok (.if_icmp .ne 12, 3) := by decide +kernel
theorem dX4_mender_32 : decode cX4_mender 32 = .ok (.aload_n 0, 1) := by decide +kernel
theorem dX4_mender_33 : decode cX4_mender 33 = .ok (.ldc 96, 2) := by decide +kernel
theorem dX4_mender_35 : decode cX4_mender 35 = .ok (.invokevirtual 74, 3) := by decide +kernel
theorem dX4_mender_38 : decode cX4_mender 38 = .ok (.goto 9, 3) := by decide +kernel
theorem dX4_mender_41 : decode cX4_mender 41 = .ok (.aload_n 0, 1) := by decide +kernel
theorem dX4_mender_42 : decode cX4_mender 42 = .ok (.iload_n 1, 1) := by decide +kernel
theorem dX4_mender_43 : decode cX4_mender 43 = .ok (.iload_n 2, 1) := by decide +kernel
theorem dX4_mender_44 : decode cX4_mender 44 = .ok (.invokevirtual 97, 3) := by decide +kernel
theorem dX4_mender_47 : decode cX4_mender 47 = .ok (.ireturn, 1) := by decide +kernel
theorem dX4_atLeastOne_0 : decode cX4_atLeastOne 0 = .ok (.iload_n 0, 1) := by decide +kernel
theorem dX4_atLeastOne_1 : decode cX4_atLeastOne 1 = .ok (.iconst 1, 1) := by decide +kernel
theorem dX4_atLeastOne_2 : decode cX4_atLeastOne 2 = .ok (.if_icmp .ge 7, 3) := by decide +kernel
theorem dX4_atLeastOne_5 : decode cX4_atLeastOne 5 = .ok (.iconst 1, 1) := by decide +kernel
theorem dX4_atLeastOne_6 : decode cX4_atLeastOne 6 = .ok (.goto 4, 3) := by decide +kernel
theorem dX4_atLeastOne_9 : decode cX4_atLeastOne 9 = .ok (.iload_n 0, 1) := by decide +kernel
theorem dX4_atLeastOne_10 : decode cX4_atLeastOne 10 = .ok (.ireturn, 1) := by decide +kernel
theorem dX4_costOf_0 : decode cX4_costOf 0 = .ok (.aload_n 0, 1) := by decide +kernel
theorem dX4_costOf_1 : decode cX4_costOf 1 = .ok (.getfield 7, 3) := by decide +kernel
theorem dX4_costOf_4 : decode cX4_costOf 4 = .ok (.iconst 3, 1) := by decide +kernel
theorem dX4_costOf_5 : decode cX4_costOf 5 = .ok (.iload_n 2, 1) := by decide +kernel
theorem dX4_costOf_6 : decode cX4_costOf 6 = .ok (.iadd, 1) := by decide +kernel
theorem dX4_costOf_7 : decode cX4_costOf 7 = .ok (.iaload, 1) := by decide +kernel
theorem dX4_costOf_8 : decode cX4_costOf 8 = .ok (.istore_n 3, 1) := by decide +kernel
theorem dX4_costOf_9 : decode cX4_costOf 9 = .ok (.aload_n 0, 1) := by decide +kernel
theorem dX4_costOf_10 : decode cX4_costOf 10 = .ok (.getfield 7, 3) := by decide +kernel
theorem dX4_costOf_13 : decode cX4_costOf 13 = .ok (.bipush 51, 2) := by decide +kernel
theorem dX4_costOf_15 : decode cX4_costOf 15 = .ok (.iload_n 2, 1) := by decide +kernel
theorem dX4_costOf_16 : decode cX4_costOf 16 = .ok (.iadd, 1) := by decide +kernel
theorem dX4_costOf_17 : decode cX4_costOf 17 = .ok (.iaload, 1) := by decide +kernel
theorem dX4_costOf_18 : decode cX4_costOf 18 = .ok (.istore 4, 2) := by decide +kernel
theorem dX4_costOf_20 : decode cX4_costOf 20 = .ok (.iconst 3, 1) := by decide +kernel
theorem dX4_costOf_21 : decode cX4_costOf 21 = .ok (.iload_n 3, 1) := by decide +kernel
theorem dX4_costOf_22 : decode cX4_costOf 22 = .ok (.iload 4, 2) := by decide +kernel
theorem dX4_costOf_24 : decode cX4_costOf 24 = .ok (.if_icmp .ge 10, 3) := by decide +kernel
theorem dX4_costOf_27 : decode cX4_costOf 27 = .ok (.iload 4, 2) := by decide +kernel
theorem dX4_costOf_29 : decode cX4_costOf 29 = .ok (.iload_n 3, 1) := by decide +kernel
theorem dX4_costOf_30 : decode cX4_costOf 30 = .ok (.isub, 1) := by decide +kernel
theorem dX4_costOf_31 : decode cX4_costOf 31 = .ok (.goto 7, 3) := by decide +kernel
theorem dX4_costOf_34 : decode cX4_costOf 34 = .ok (.iload_n 3, 1) := by decide +kernel
theorem dX4_costOf_35 : decode cX4_costOf 35 = .ok (.iload 4, 2) := by decide +kernel
theorem dX4_costOf_37 : decode cX4_costOf 37 = .ok (.isub, 1) := by decide +kernel
theorem dX4_costOf_38 : decode cX4_costOf 38 = .ok (.imul, 1) := by decide +kernel
theorem dX4_costOf_39 : decode cX4_costOf 39 = .ok (.iconst 2, 1) := by decide +kernel
theorem dX4_costOf_40 : decode cX4_costOf 40 = .ok (.iadd, 1) := by decide +kernel
theorem dX4_costOf_41 : decode cX4_costOf 41 = .ok (.istore 5, 2) := by decide +kernel
theorem dX4_costOf_43 : decode cX4_costOf 43 = .ok (.iload_n 3, 1) := by decide +kernel
theorem dX4_costOf_44 : decode cX4_costOf 44 = .ok (.iconst 1, 1) := by decide +kernel
theorem dX4_costOf_45 : decode cX4_costOf 45 = .ok (.if_icmp .eq 9, 3) := by decide +kernel
theorem dX4_costOf_48 : decode cX4_costOf 48 = .ok (.iload 4, 2) := by decide +kernel
theorem dX4_costOf_50 : decode cX4_costOf 50 = .ok (.iconst 1, 1) := by decide +kernel
theorem dX4_costOf_51 : decode cX4_costOf 51 = .ok (.if_icmp .ne 10, 3) := by decide +kernel
theorem dX4_costOf_54 : decode cX4_costOf 54 = .ok (.iload 5, 2) := by decide +kernel
theorem dX4_costOf_56 : decode cX4_costOf 56 = .ok (.iconst 2, 1) := by decide +kernel
theorem dX4_costOf_57 : decode cX4_costOf 57 = .ok (.idiv, 1) := by decide +kernel
theorem dX4_costOf_58 : decode cX4_costOf 58 = .ok (.goto 5, 3) := by decide +kernel
theorem dX4_costOf_61 : decode cX4_costOf 61 = .ok (.iload 5, 2) := by decide +kernel
theorem dX4_costOf_63 : decode cX4_costOf 63 = .ok (.istore 6, 2) := by decide +kernel
theorem dX4_costOf_65 : decode cX4_costOf 65 = .ok (.aload_n 0, 1) := by decide +kernel
theorem dX4_costOf_66 : decode cX4_costOf 66 = .ok (.iload_n 1, 1) := by decide +kernel
theorem dX4_costOf_67 : decode cX4_costOf 67 = .ok (.iconst 0, 1) := by decide +kernel
theorem dX4_costOf_68 : decode cX4_costOf 68 = .ok (.invokevirtual 86, 3) := by decide +kernel
theorem dX4_costOf_71 : decode cX4_costOf 71 = .ok (.tableswitch 101 1 5 #[33, 36, 45, 55, 79], 33) := by decide +kernel
theorem dX4_costOf_104 : decode cX4_costOf 104 = .ok (.iload 6, 2) := by decide +kernel
theorem dX4_costOf_106 : decode cX4_costOf 106 = .ok (.ireturn, 1) := by decide +kernel
theorem dX4_costOf_107 : decode cX4_costOf 107 = .ok (.iload 5, 2) := by decide +kernel
theorem dX4_costOf_109 : decode cX4_costOf 109 = .ok (.aload_n 0, 1) := by decide +kernel
theorem dX4_costOf_110 : decode cX4_costOf 110 = .ok (.iload_n 2, 1) := by decide +kernel
theorem dX4_costOf_111 : decode cX4_costOf 111 = .ok (.invokevirtual 80, 3) := by decide +kernel
theorem dX4_costOf_114 : decode cX4_costOf 114 = .ok (.iadd, 1) := by decide +kernel
theorem dX4_costOf_115 : decode cX4_costOf 115 = .ok (.ireturn, 1) := by decide +kernel
theorem dX4_costOf_116 : decode cX4_costOf 116 = .ok (.iconst 2, 1) := by decide +kernel
theorem dX4_costOf_117 : decode cX4_costOf 117 = .ok (.iconst 4, 1) := by decide +kernel
theorem dX4_costOf_118 : decode cX4_costOf 118 = .ok (.aload_n 0, 1) := by decide +kernel
theorem dX4_costOf_119 : decode cX4_costOf 119 = .ok (.iload_n 2, 1) := by decide +kernel
theorem dX4_costOf_120 : decode cX4_costOf 120 = .ok (.invokevirtual 80, 3) := by decide +kernel
theorem dX4_costOf_123 : decode cX4_costOf 123 = .ok (.iadd, 1) := by decide +kernel
theorem dX4_costOf_124 : decode cX4_costOf 124 = .ok (.imul, 1) := by decide +kernel
theorem dX4_costOf_125 : decode cX4_costOf 125 = .ok (.ireturn, 1) := by decide +kernel
theorem dX4_costOf_126 : decode cX4_costOf 126 = .ok (.iload_n 3, 1) := by decide +kernel
theorem dX4_costOf_127 : decode cX4_costOf 127 = .ok (.iconst 3, 1) := by decide +kernel
theorem dX4_costOf_128 : decode cX4_costOf 128 = .ok (.if_icmp .eq 9, 3) := by decide +kernel
theorem dX4_costOf_131 : decode cX4_costOf 131 = .ok (.iload 4, 2) := by decide +kernel
theorem dX4_costOf_133 : decode cX4_costOf 133 = .ok (.iconst 3, 1) := by decide +kernel
theorem dX4_costOf_134 : decode cX4_costOf 134 = .ok (.if_icmp .ne 13, 3) := by decide +kernel
theorem dX4_costOf_137 : decode cX4_costOf 137 = .ok (.iload 6, 2) := by decide +kernel
theorem dX4_costOf_139 : decode cX4_costOf 139 = .ok (.iconst 5, 1) := by decide +kernel
theorem dX4_costOf_140 : decode cX4_costOf 140 = .ok (.isub, 1) := by decide +kernel
theorem dX4_costOf_141 : decode cX4_costOf 141 = .ok (.invokestatic 100, 3) := by decide +kernel
theorem dX4_costOf_144 : decode cX4_costOf 144 = .ok (.goto 5, 3) := by decide +kernel
theorem dX4_costOf_147 : decode cX4_costOf 147 = .ok (.iload 6, 2) := by decide +kernel
theorem dX4_costOf_149 : decode cX4_costOf 149 = .ok (.ireturn, 1) := by decide +kernel
theorem dX4_costOf_150 : decode cX4_costOf 150 = .ok (.iload 5, 2) := by decide +kernel
theorem dX4_costOf_152 : decode cX4_costOf 152 = .ok (.aload_n 0, 1) := by decide +kernel
theorem dX4_costOf_153 : decode cX4_costOf 153 = .ok (.iload_n 2, 1) := by decide +kernel
theorem dX4_costOf_154 : decode cX4_costOf 154 = .ok (.invokevirtual 80, 3) := by decide +kernel
theorem dX4_costOf_157 : decode cX4_costOf 157 = .ok (.iadd, 1) := by decide +kernel
theorem dX4_costOf_158 : decode cX4_costOf 158 = .ok (.aload_n 0, 1) := by decide +kernel
theorem dX4_costOf_159 : decode cX4_costOf 159 = .ok (.iload_n 1, 1) := by decide +kernel
theorem dX4_costOf_160 : decode cX4_costOf 160 = .ok (.iconst 2, 1) := by decide +kernel
theorem dX4_costOf_161 : decode cX4_costOf 161 = .ok (.invokevirtual 86, 3) := by decide +kernel
theorem dX4_costOf_164 : decode cX4_costOf 164 = .ok (.bipush 10, 2) := by decide +kernel
theorem dX4_costOf_166 : decode cX4_costOf 166 = .ok (.idiv, 1) := by decide +kernel
theorem dX4_costOf_167 : decode cX4_costOf 167 = .ok (.isub, 1) := by decide +kernel
theorem dX4_costOf_168 : decode cX4_costOf 168 = .ok (.invokestatic 100, 3) := by decide +kernel
theorem dX4_costOf_171 : decode cX4_costOf 171 = .ok (.ireturn, 1) := by decide +kernel
theorem dX4_costOf_172 : decode cX4_costOf 172 = .ok (.iload 5, 2) := by decide +kernel
theorem dX4_costOf_174 : decode cX4_costOf 174 = .ok (.ireturn, 1) := by decide +kernel
theorem dX4_goesFor_0 : decode cX4_goesFor 0 = .ok (.iconst (-1), 1) := by decide +kernel
theorem dX4_goesFor_1 : decode cX4_goesFor 1 = .ok (.istore_n 2, 1) := by decide +kernel
theorem dX4_goesFor_2 : decode cX4_goesFor 2 = .ok (.iconst 0, 1) := by decide +kernel
theorem dX4_goesFor_3 : decode cX4_goesFor 3 = .ok (.istore_n 3, 1) := by decide +kernel
theorem dX4_goesFor_4 : decode cX4_goesFor 4 = .ok (.iconst 0, 1) := by decide +kernel
theorem dX4_goesFor_5 : decode cX4_goesFor 5 = .ok (.istore 4, 2) := by decide +kernel
theorem dX4_goesFor_7 : decode cX4_goesFor 7 = .ok (.iload 4, 2) := by decide +kernel
theorem dX4_goesFor_9 : decode cX4_goesFor 9 = .ok (.bipush 48, 2) := by decide +kernel
theorem dX4_goesFor_11 : decode cX4_goesFor 11 = .ok (.if_icmp .ge 84, 3) := by decide +kernel
theorem dX4_goesFor_14 : decode cX4_goesFor 14 = .ok (.aload_n 0, 1) := by decide +kernel
theorem dX4_goesFor_15 : decode cX4_goesFor 15 = .ok (.iload 4, 2) := by decide +kernel
theorem dX4_goesFor_17 : decode cX4_goesFor 17 = .ok (.invokevirtual 61, 3) := by decide +kernel
theorem dX4_goesFor_20 : decode cX4_goesFor 20 = .ok (.ifCond .ne 7, 3) := by decide +kernel
theorem dX4_goesFor_23 : decode cX4_goesFor 23 = .ok (.iconst 0, 1) := by decide +kernel
theorem dX4_goesFor_24 : decode cX4_goesFor 24 = .ok (.goto 37, 3) := by decide +kernel
theorem dX4_goesFor_27 : decode cX4_goesFor 27 = .ok (.aload_n 0, 1) := by decide +kernel
theorem dX4_goesFor_28 : decode cX4_goesFor 28 = .ok (.iload_n 1, 1) := by decide +kernel
theorem dX4_goesFor_29 : decode cX4_goesFor 29 = .ok (.iconst 0, 1) := by decide +kernel
theorem dX4_goesFor_30 : decode cX4_goesFor 30 = .ok (.invokevirtual 86, 3) := by decide +kernel
theorem dX4_goesFor_33 : decode cX4_goesFor 33 = .ok (.iconst 5, 1) := by decide +kernel
theorem dX4_goesFor_34 : decode cX4_goesFor 34 = .ok (.if_icmp .ne 13, 3) := by decide +kernel
theorem dX4_goesFor_37 : decode cX4_goesFor 37 = .ok (.aload_n 0, 1) := by decide +kernel
theorem dX4_goesFor_38 : decode cX4_goesFor 38 = .ok (.iload_n 1, 1) := by decide +kernel
theorem dX4_goesFor_39 : decode cX4_goesFor 39 = .ok (.iload 4, 2) := by decide +kernel
theorem dX4_goesFor_41 : decode cX4_goesFor 41 = .ok (.invokevirtual 103, 3) := by decide +kernel
theorem dX4_goesFor_44 : decode cX4_goesFor 44 = .ok (.goto 17, 3) := by decide +kernel
theorem dX4_goesFor_47 : decode cX4_goesFor 47 = .ok (.bipush 100, 2) := by decide +kernel
theorem dX4_goesFor_49 : decode cX4_goesFor 49 = .ok (.aload_n 0, 1) := by decide +kernel
theorem dX4_goesFor_50 : decode cX4_goesFor 50 = .ok (.iload_n 1, 1) := by decide +kernel
theorem dX4_goesFor_51 : decode cX4_goesFor 51 = .ok (.iconst 1, 1) := by decide +kernel
theorem dX4_goesFor_52 : decode cX4_goesFor 52 = .ok (.invokevirtual 86, 3) := by decide +kernel
theorem dX4_goesFor_55 : decode cX4_goesFor 55 = .ok (.iload 4, 2) := by decide +kernel
theorem dX4_goesFor_57 : decode cX4_goesFor 57 = .ok (.invokestatic 106, 3) := by decide +kernel
theorem dX4_goesFor_60 : decode cX4_goesFor 60 = .ok (.isub, 1) := by decide +kernel
theorem dX4_goesFor_61 : decode cX4_goesFor 61 = .ok (.istore 5, 2) := by decide +kernel
theorem dX4_goesFor_63 : decode cX4_goesFor 63 = .ok (.iload 5, 2) := by decide +kernel
theorem dX4_goesFor_65 : decode cX4_goesFor 65 = .ok (.iload_n 3, 1) := by decide +kernel
theorem dX4_goesFor_66 : decode cX4_goesFor 66 = .ok (.if_icmp .le 8, 3) := by decide +kernel
theorem dX4_goesFor_69 : decode cX4_goesFor 69 = .ok (.iload 4, 2) := by decide +kernel
theorem dX4_goesFor_71 : decode cX4_goesFor 71 = .ok (.goto 4, 3) := by decide +kernel
theorem dX4_goesFor_74 : decode cX4_goesFor 74 = .ok (.iload_n 2, 1) := by decide +kernel
theorem dX4_goesFor_75 : decode cX4_goesFor 75 = .ok (.istore_n 2, 1) := by decide +kernel
theorem dX4_goesFor_76 : decode cX4_goesFor 76 = .ok (.iload 5, 2) := by decide +kernel
theorem dX4_goesFor_78 : decode cX4_goesFor 78 = .ok (.iload_n 3, 1) := by decide +kernel
theorem dX4_goesFor_79 : decode cX4_goesFor 79 = .ok (.if_icmp .le 8, 3) := by decide +kernel
theorem dX4_goesFor_82 : decode cX4_goesFor 82 = .ok (.iload 5, 2) := by decide +kernel
theorem dX4_goesFor_84 : decode cX4_goesFor 84 = .ok (.goto 4, 3) := by decide +kernel
theorem dX4_goesFor_87 : decode cX4_goesFor 87 = .ok (.iload_n 3, 1) := by decide +kernel
theorem dX4_goesFor_88 : decode cX4_goesFor 88 = .ok (.istore_n 3, 1) := by decide +kernel
theorem dX4_goesFor_89 : decode cX4_goesFor 89 = .ok (.iinc 4 1, 3) := by decide +kernel
theorem dX4_goesFor_92 : decode cX4_goesFor 92 = .ok (.goto (-85), 3) := by decide +kernel
theorem dX4_goesFor_95 : decode cX4_goesFor 95 = .ok (.iload_n 2, 1) := by decide +kernel
theorem dX4_goesFor_96 : decode cX4_goesFor 96 = .ok (.ireturn, 1) := by decide +kernel
theorem dX4_of_0 : decode cX4_of 0 = .ok (.aload_n 0, 1) := by decide +kernel
theorem dX4_of_1 : decode cX4_of 1 = .ok (.iload_n 1, 1) := by decide +kernel
theorem dX4_of_2 : decode cX4_of 2 = .ok (.invokevirtual 109, 3) := by decide +kernel
theorem dX4_of_5 : decode cX4_of 5 = .ok (.ifCond .eq 15, 3) := by decide +kernel
theorem dX4_of_8 : decode cX4_of 8 = .ok (.iload_n 2, 1) := by decide +kernel
theorem dX4_of_9 : decode cX4_of 9 = .ok (.i2l, 1) := by decide +kernel
theorem dX4_of_10 : decode cX4_of 10 = .ok (.lconst 0, 1) := by decide +kernel
theorem dX4_of_11 : decode cX4_of 11 = .ok (.ldc2_w 55, 3) := by decide +kernel
theorem dX4_of_14 : decode cX4_of 14 = .ok (.invokestatic 51, 3) := by decide +kernel
theorem dX4_of_17 : decode cX4_of 17 = .ok (.ifCond .ne 10, 3) := by decide +kernel
theorem dX4_of_20 : decode cX4_of 20 = .ok (.aload_n 0, 1) := by decide +kernel
theorem dX4_of_21 : decode cX4_of 21 = .ok (.ldc 48, 2) := by decide +kernel
theorem dX4_of_23 : decode cX4_of 23 = .ok (.invokevirtual 74, 3) := by decide +kernel
theorem dX4_of_26 : decode cX4_of 26 = .ok (.ireturn, 1) := by decide +kernel
theorem dX4_of_27 : decode cX4_of 27 = .ok (.aload_n 0, 1) := by decide +kernel
theorem dX4_of_28 : decode cX4_of 28 = .ok (.iload_n 1, 1) := by decide +kernel
theorem dX4_of_29 : decode cX4_of 29 = .ok (.invokevirtual 112, 3) := by decide +kernel
theorem dX4_of_32 : decode cX4_of 32 = .ok (.istore_n 3, 1) := by decide +kernel
theorem dX4_of_33 : decode cX4_of 33 = .ok (.iload_n 2, 1) := by decide +kernel
theorem dX4_of_34 : decode cX4_of 34 = .ok (.iconst 4, 1) := by decide +kernel
theorem dX4_of_35 : decode cX4_of 35 = .ok (.if_icmp .ge 12, 3) := by decide +kernel
theorem dX4_of_38 : decode cX4_of 38 = .ok (.aload_n 0, 1) := by decide +kernel
theorem dX4_of_39 : decode cX4_of 39 = .ok (.iload_n 1, 1) := by decide +kernel
theorem dX4_of_40 : decode cX4_of 40 = .ok (.iload_n 2, 1) := by decide +kernel
theorem dX4_of_41 : decode cX4_of 41 = .ok (.invokevirtual 86, 3) := by decide +kernel
theorem dX4_of_44 : decode cX4_of 44 = .ok (.goto 26, 3) := by decide +kernel
theorem dX4_of_47 : decode cX4_of 47 = .ok (.iload_n 2, 1) := by decide +kernel
theorem dX4_of_48 : decode cX4_of 48 = .ok (.iconst 4, 1) := by decide +kernel
theorem dX4_of_49 : decode cX4_of 49 = .ok (.if_icmp .ne 7, 3) := by decide +kernel
theorem dX4_of_52 : decode cX4_of 52 = .ok (.iload_n 3, 1) := by decide +kernel
theorem dX4_of_53 : decode cX4_of 53 = .ok (.goto 17, 3) := by decide +kernel
theorem dX4_of_56 : decode cX4_of 56 = .ok (.iload_n 3, 1) := by decide +kernel
theorem dX4_of_57 : decode cX4_of 57 = .ok (.ifCond .ge 7, 3) := by decide +kernel
theorem dX4_of_60 : decode cX4_of 60 = .ok (.iconst 0, 1) := by decide +kernel
theorem dX4_of_61 : decode cX4_of 61 = .ok (.goto 9, 3) := by decide +kernel
theorem dX4_of_64 : decode cX4_of 64 = .ok (.aload_n 0, 1) := by decide +kernel
theorem dX4_of_65 : decode cX4_of 65 = .ok (.iload_n 1, 1) := by decide +kernel
theorem dX4_of_66 : decode cX4_of 66 = .ok (.iload_n 3, 1) := by decide +kernel
theorem dX4_of_67 : decode cX4_of 67 = .ok (.invokevirtual 103, 3) := by decide +kernel
theorem dX4_of_70 : decode cX4_of 70 = .ok (.ireturn, 1) := by decide +kernel
theorem dX4_set_0 : decode cX4_set 0 = .ok (.iload_n 2, 1) := by decide +kernel
theorem dX4_set_1 : decode cX4_set 1 = .ok (.iconst 1, 1) := by decide +kernel
theorem dX4_set_2 : decode cX4_set 2 = .ok (.if_icmp .ne 10, 3) := by decide +kernel
theorem dX4_set_5 : decode cX4_set 5 = .ok (.iload_n 3, 1) := by decide +kernel
theorem dX4_set_6 : decode cX4_set 6 = .ok (.invokestatic 68, 3) := by decide +kernel
theorem dX4_set_9 : decode cX4_set 9 = .ok (.goto 25, 3) := by decide +kernel
theorem dX4_set_12 : decode cX4_set 12 = .ok (.iload_n 2, 1) := by decide +kernel
theorem dX4_set_13 : decode cX4_set 13 = .ok (.iconst 2, 1) := by decide +kernel
theorem dX4_set_14 : decode cX4_set 14 = .ok (.if_icmp .ne 19, 3) := by decide +kernel
theorem dX4_set_17 : decode cX4_set 17 = .ok (.iload_n 3, 1) := by decide +kernel
theorem dX4_set_18 : decode cX4_set 18 = .ok (.i2l, 1) := by decide +kernel
theorem dX4_set_19 : decode cX4_set 19 = .ok (.lconst 0, 1) := by decide +kernel
theorem dX4_set_20 : decode cX4_set 20 = .ok (.ldc2_w 115, 3) := by decide +kernel
theorem dX4_set_23 : decode cX4_set 23 = .ok (.invokestatic 51, 3) := by decide +kernel
theorem dX4_set_26 : decode cX4_set 26 = .ok (.ifCond .eq 7, 3) := by decide +kernel
theorem dX4_set_29 : decode cX4_set 29 = .ok (.iconst 1, 1) := by decide +kernel
theorem dX4_set_30 : decode cX4_set 30 = .ok (.goto 4, 3) := by decide +kernel
theorem dX4_set_33 : decode cX4_set 33 = .ok (.iconst 0, 1) := by decide +kernel
theorem dX4_set_34 : decode cX4_set 34 = .ok (.istore 4, 2) := by decide +kernel
theorem dX4_set_36 : decode cX4_set 36 = .ok (.aload_n 0, 1) := by decide +kernel
theorem dX4_set_37 : decode cX4_set 37 = .ok (.iload_n 1, 1) := by decide +kernel
theorem dX4_set_38 : decode cX4_set 38 = .ok (.invokevirtual 109, 3) := by decide +kernel
theorem dX4_set_41 : decode cX4_set 41 = .ok (.ifCond .eq 21, 3) := by decide +kernel
theorem dX4_set_44 : decode cX4_set 44 = .ok (.iload 4, 2) := by decide +kernel
theorem dX4_set_46 : decode cX4_set 46 = .ok (.ifCond .eq 16, 3) := by decide +kernel
theorem dX4_set_49 : decode cX4_set 49 = .ok (.aload_n 0, 1) := by decide +kernel
theorem dX4_set_50 : decode cX4_set 50 = .ok (.iload_n 1, 1) := by decide +kernel
theorem dX4_set_51 : decode cX4_set 51 = .ok (.iload_n 2, 1) := by decide +kernel
theorem dX4_set_52 : decode cX4_set 52 = .ok (.invokestatic 57, 3) := by decide +kernel
theorem dX4_set_55 : decode cX4_set 55 = .ok (.iload_n 3, 1) := by decide +kernel
theorem dX4_set_56 : decode cX4_set 56 = .ok (.invokevirtual 71, 3) := by decide +kernel
theorem dX4_set_59 : decode cX4_set 59 = .ok (.goto 9, 3) := by decide +kernel
theorem dX4_set_62 : decode cX4_set 62 = .ok (.aload_n 0, 1) := by decide +kernel
theorem dX4_set_63 : decode cX4_set 63 = .ok (.ldc 48, 2) := by decide +kernel
theorem dX4_set_65 : decode cX4_set 65 = .ok (.invokevirtual 74, 3) := by decide +kernel
theorem dX4_set_68 : decode cX4_set 68 = .ok (.ireturn, 1) := by decide +kernel
theorem dX4_turn_0 : decode cX4_turn 0 = .ok (.aload_n 0, 1) := by decide +kernel
theorem dX4_turn_1 : decode cX4_turn 1 = .ok (.iload_n 1, 1) := by decide +kernel
theorem dX4_turn_2 : decode cX4_turn 2 = .ok (.invokevirtual 109, 3) := by decide +kernel
theorem dX4_turn_5 : decode cX4_turn 5 = .ok (.ifCond .eq 23, 3) := by decide +kernel
theorem dX4_turn_8 : decode cX4_turn 8 = .ok (.iload_n 2, 1) := by decide +kernel
theorem dX4_turn_9 : decode cX4_turn 9 = .ok (.invokestatic 93, 3) := by decide +kernel
theorem dX4_turn_12 : decode cX4_turn 12 = .ok (.ifCond .eq 16, 3) := by decide +kernel
theorem dX4_turn_15 : decode cX4_turn 15 = .ok (.aload_n 0, 1) := by decide +kernel
theorem dX4_turn_16 : decode cX4_turn 16 = .ok (.iload_n 1, 1) := by decide +kernel
theorem dX4_turn_17 : decode cX4_turn 17 = .ok (.iconst 0, 1) := by decide +kernel
theorem dX4_turn_18 : decode cX4_turn 18 = .ok (.invokestatic 57, 3) := by decide +kernel
theorem dX4_turn_21 : decode cX4_turn 21 = .ok (.iload_n 2, 1) := by decide +kernel
theorem dX4_turn_22 : decode cX4_turn 22 = .ok (.invokevirtual 71, 3) := by decide +kernel
theorem dX4_turn_25 : decode cX4_turn 25 = .ok (.goto 9, 3) := by decide +kernel
theorem dX4_turn_28 : decode cX4_turn 28 = .ok (.aload_n 0, 1) := by decide +kernel
theorem dX4_turn_29 : decode cX4_turn 29 = .ok (.ldc 48, 2) := by decide +kernel
theorem dX4_turn_31 : decode cX4_turn 31 = .ok (.invokevirtual 74, 3) := by decide +kernel
theorem dX4_turn_34 : decode cX4_turn 34 = .ok (.ireturn, 1) := by decide +kernel
theorem dX4_isUnder_0 : decode cX4_isUnder 0 = .ok (.iload_n 1, 1) := by decide +kernel
theorem dX4_isUnder_1 : decode cX4_isUnder 1 = .ok (.ifCond .eq 20, 3) := by decide +kernel
theorem dX4_isUnder_4 : decode cX4_isUnder 4 = .ok (.iload_n 0, 1) := by decide +kernel
theorem dX4_isUnder_5 : decode cX4_isUnder 5 = .ok (.iload_n 1, 1) := by decide +kernel
theorem dX4_isUnder_6 : decode cX4_isUnder 6 = .ok (.if_icmp .eq 15, 3) := by decide +kernel
theorem dX4_isUnder_9 : decode cX4_isUnder 9 = .ok (.iload_n 0, 1) := by decide +kernel
theorem dX4_isUnder_10 : decode cX4_isUnder 10 = .ok (.iconst 3, 1) := by decide +kernel
theorem dX4_isUnder_11 : decode cX4_isUnder 11 = .ok (.if_icmp .le 14, 3) := by decide +kernel
theorem dX4_isUnder_14 : decode cX4_isUnder 14 = .ok (.iload_n 0, 1) := by decide +kernel
theorem dX4_isUnder_15 : decode cX4_isUnder 15 = .ok (.iconst 3, 1) := by decide +kernel
theorem dX4_isUnder_16 : decode cX4_isUnder 16 = .ok (.isub, 1) := by decide +kernel
theorem dX4_isUnder_17 : decode cX4_isUnder 17 = .ok (.iload_n 1, 1) := by decide +kernel
theorem dX4_isUnder_18 : decode cX4_isUnder 18 = .ok (.if_icmp .ne 7, 3) := by decide +kernel
theorem dX4_isUnder_21 : decode cX4_isUnder 21 = .ok (.iconst 1, 1) := by decide +kernel
theorem dX4_isUnder_22 : decode cX4_isUnder 22 = .ok (.goto 4, 3) := by decide +kernel
theorem dX4_isUnder_25 : decode cX4_isUnder 25 = .ok (.iconst 0, 1) := by decide +kernel
theorem dX4_isUnder_26 : decode cX4_isUnder 26 = .ok (.ireturn, 1) := by decide +kernel
theorem dX4_as_0 : decode cX4_as 0 = .ok (.aload_n 0, 1) := by decide +kernel
theorem dX4_as_1 : decode cX4_as 1 = .ok (.iload_n 1, 1) := by decide +kernel
theorem dX4_as_2 : decode cX4_as 2 = .ok (.invokevirtual 109, 3) := by decide +kernel
theorem dX4_as_5 : decode cX4_as 5 = .ok (.ifCond .eq 10, 3) := by decide +kernel
theorem dX4_as_8 : decode cX4_as 8 = .ok (.iload_n 2, 1) := by decide +kernel
theorem dX4_as_9 : decode cX4_as 9 = .ok (.invokestatic 93, 3) := by decide +kernel
theorem dX4_as_12 : decode cX4_as 12 = .ok (.ifCond .ne 10, 3) := by decide +kernel
theorem dX4_as_15 : decode cX4_as 15 = .ok (.aload_n 0, 1) := by decide +kernel
theorem dX4_as_16 : decode cX4_as 16 = .ok (.ldc 48, 2) := by decide +kernel
theorem dX4_as_18 : decode cX4_as 18 = .ok (.invokevirtual 74, 3) := by decide +kernel
theorem dX4_as_21 : decode cX4_as 21 = .ok (.ireturn, 1) := by decide +kernel
theorem dX4_as_22 : decode cX4_as 22 = .ok (.aload_n 0, 1) := by decide +kernel
theorem dX4_as_23 : decode cX4_as 23 = .ok (.iload_n 1, 1) := by decide +kernel
theorem dX4_as_24 : decode cX4_as 24 = .ok (.iconst 0, 1) := by decide +kernel
theorem dX4_as_25 : decode cX4_as 25 = .ok (.invokevirtual 86, 3) := by decide +kernel
theorem dX4_as_28 : decode cX4_as 28 = .ok (.iload_n 2, 1) := by decide +kernel
theorem dX4_as_29 : decode cX4_as 29 = .ok (.invokestatic 117, 3) := by decide +kernel
theorem dX4_as_32 : decode cX4_as 32 = .ok (.ifCond .eq 12, 3) := by decide +kernel
theorem dX4_as_35 : decode cX4_as 35 = .ok (.aload_n 0, 1) := by decide +kernel
theorem dX4_as_36 : decode cX4_as 36 = .ok (.iload_n 1, 1) := by decide +kernel
theorem dX4_as_37 : decode cX4_as 37 = .ok (.iconst 2, 1) := by decide +kernel
theorem dX4_as_38 : decode cX4_as 38 = .ok (.invokevirtual 86, 3) := by decide +kernel
theorem dX4_as_41 : decode cX4_as 41 = .ok (.goto 9, 3) := by decide +kernel
theorem dX4_as_44 : decode cX4_as 44 = .ok (.aload_n 0, 1) := by decide +kernel
theorem dX4_as_45 : decode cX4_as 45 = .ok (.ldc 121, 2) := by decide +kernel
theorem dX4_as_47 : decode cX4_as 47 = .ok (.invokevirtual 74, 3) := by decide +kernel
theorem dX4_as_50 : decode cX4_as 50 = .ok (.ireturn, 1) := by decide +kernel
theorem dX4_cost_0 : decode cX4_cost 0 = .ok (.aload_n 0, 1) := by decide +kernel
theorem dX4_cost_1 : decode cX4_cost 1 = .ok (.iload_n 1, 1) := by decide +kernel
theorem dX4_cost_2 : decode cX4_cost 2 = .ok (.invokevirtual 109, 3) := by decide +kernel
theorem dX4_cost_5 : decode cX4_cost 5 = .ok (.ifCond .eq 10, 3) := by decide +kernel
theorem dX4_cost_8 : decode cX4_cost 8 = .ok (.iload_n 2, 1) := by decide +kernel
theorem dX4_cost_9 : decode cX4_cost 9 = .ok (.invokestatic 68, 3) := by decide +kernel
theorem dX4_cost_12 : decode cX4_cost 12 = .ok (.ifCond .ne 10, 3) := by decide +kernel
theorem dX4_cost_15 : decode cX4_cost 15 = .ok (.aload_n 0, 1) := by decide +kernel
theorem dX4_cost_16 : decode cX4_cost 16 = .ok (.ldc 48, 2) := by decide +kernel
theorem dX4_cost_18 : decode cX4_cost 18 = .ok (.invokevirtual 74, 3) := by decide +kernel
theorem dX4_cost_21 : decode cX4_cost 21 = .ok (.ireturn, 1) := by decide +kernel
theorem dX4_cost_22 : decode cX4_cost 22 = .ok (.aload_n 0, 1) := by decide +kernel
theorem dX4_cost_23 : decode cX4_cost 23 = .ok (.iload_n 2, 1) := by decide +kernel
theorem dX4_cost_24 : decode cX4_cost 24 = .ok (.invokevirtual 61, 3) := by decide +kernel
theorem dX4_cost_27 : decode cX4_cost 27 = .ok (.ifCond .eq 12, 3) := by decide +kernel
theorem dX4_cost_30 : decode cX4_cost 30 = .ok (.aload_n 0, 1) := by decide +kernel
theorem dX4_cost_31 : decode cX4_cost 31 = .ok (.iload_n 1, 1) := by decide +kernel
theorem dX4_cost_32 : decode cX4_cost 32 = .ok (.iload_n 2, 1) := by decide +kernel
theorem dX4_cost_33 : decode cX4_cost 33 = .ok (.invokevirtual 103, 3) := by decide +kernel
theorem dX4_cost_36 : decode cX4_cost 36 = .ok (.goto 9, 3) := by decide +kernel
theorem dX4_cost_39 : decode cX4_cost 39 = .ok (.aload_n 0, 1) := by decide +kernel
theorem dX4_cost_40 : decode cX4_cost 40 = .ok (.ldc 122, 2) := by decide +kernel
theorem dX4_cost_42 : decode cX4_cost 42 = .ok (.invokevirtual 74, 3) := by decide +kernel
theorem dX4_cost_45 : decode cX4_cost 45 = .ok (.ireturn, 1) := by decide +kernel
theorem dX4_mends_0 : decode cX4_mends 0 = .ok (.aload_n 0, 1) := by decide +kernel
theorem dX4_mends_1 : decode cX4_mends 1 = .ok (.getfield 7, 3) := by decide +kernel
theorem dX4_mends_4 : decode cX4_mends 4 = .ok (.iload_n 1, 1) := by decide +kernel
theorem dX4_mends_5 : decode cX4_mends 5 = .ok (.iconst 1, 1) := by decide +kernel
theorem dX4_mends_6 : decode cX4_mends 6 = .ok (.invokestatic 57, 3) := by decide +kernel
theorem dX4_mends_9 : decode cX4_mends 9 = .ok (.iload_n 2, 1) := by decide +kernel
theorem dX4_mends_10 : decode cX4_mends 10 = .ok (.iastore, 1) := by decide +kernel
theorem dX4_mends_11 : decode cX4_mends 11 = .ok (.aload_n 0, 1) := by decide +kernel
theorem dX4_mends_12 : decode cX4_mends 12 = .ok (.iload_n 1, 1) := by decide +kernel
theorem dX4_mends_13 : decode cX4_mends 13 = .ok (.iconst 0, 1) := by decide +kernel
theorem dX4_mends_14 : decode cX4_mends 14 = .ok (.invokevirtual 86, 3) := by decide +kernel
theorem dX4_mends_17 : decode cX4_mends 17 = .ok (.iconst 3, 1) := by decide +kernel
theorem dX4_mends_18 : decode cX4_mends 18 = .ok (.if_icmp .ne 21, 3) := by decide +kernel
theorem dX4_mends_21 : decode cX4_mends 21 = .ok (.aload_n 0, 1) := by decide +kernel
theorem dX4_mends_22 : decode cX4_mends 22 = .ok (.getfield 7, 3) := by decide +kernel
theorem dX4_mends_25 : decode cX4_mends 25 = .ok (.bipush 51, 2) := by decide +kernel
theorem dX4_mends_27 : decode cX4_mends 27 = .ok (.iload_n 2, 1) := by decide +kernel
theorem dX4_mends_28 : decode cX4_mends 28 = .ok (.iadd, 1) := by decide +kernel
theorem dX4_mends_29 : decode cX4_mends 29 = .ok (.aload_n 0, 1) := by decide +kernel
theorem dX4_mends_30 : decode cX4_mends 30 = .ok (.getfield 7, 3) := by decide +kernel
theorem dX4_mends_33 : decode cX4_mends 33 = .ok (.iconst 3, 1) := by decide +kernel
theorem dX4_mends_34 : decode cX4_mends 34 = .ok (.iload_n 2, 1) := by decide +kernel
theorem dX4_mends_35 : decode cX4_mends 35 = .ok (.iadd, 1) := by decide +kernel
theorem dX4_mends_36 : decode cX4_mends 36 = .ok (.iaload, 1) := by decide +kernel
theorem dX4_mends_37 : decode cX4_mends 37 = .ok (.iastore, 1) := by decide +kernel
theorem dX4_mends_38 : decode cX4_mends 38 = .ok (.return_, 1) := by decide +kernel
theorem dX4_mends_39 : decode cX4_mends 39 = .ok (.aload_n 0, 1) := by decide +kernel
theorem dX4_mends_40 : decode cX4_mends 40 = .ok (.getfield 7, 3) := by decide +kernel
theorem dX4_mends_43 : decode cX4_mends 43 = .ok (.iconst 3, 1) := by decide +kernel
theorem dX4_mends_44 : decode cX4_mends 44 = .ok (.iload_n 2, 1) := by decide +kernel
theorem dX4_mends_45 : decode cX4_mends 45 = .ok (.iadd, 1) := by decide +kernel
theorem dX4_mends_46 : decode cX4_mends 46 = .ok (.aload_n 0, 1) := by decide +kernel
theorem dX4_mends_47 : decode cX4_mends 47 = .ok (.getfield 7, 3) := by decide +kernel
theorem dX4_mends_50 : decode cX4_mends 50 = .ok (.bipush 51, 2) := by decide +kernel
theorem dX4_mends_52 : decode cX4_mends 52 = .ok (.iload_n 2, 1) := by decide +kernel
theorem dX4_mends_53 : decode cX4_mends 53 = .ok (.iadd, 1) := by decide +kernel
theorem dX4_mends_54 : decode cX4_mends 54 = .ok (.iaload, 1) := by decide +kernel
theorem dX4_mends_55 : decode cX4_mends 55 = .ok (.iastore, 1) := by decide +kernel
theorem dX4_mends_56 : decode cX4_mends 56 = .ok (.iconst 0, 1) := by decide +kernel
theorem dX4_mends_57 : decode cX4_mends 57 = .ok (.istore_n 3, 1) := by decide +kernel
theorem dX4_mends_58 : decode cX4_mends 58 = .ok (.iload_n 3, 1) := by decide +kernel
theorem dX4_mends_59 : decode cX4_mends 59 = .ok (.iconst 4, 1) := by decide +kernel
theorem dX4_mends_60 : decode cX4_mends 60 = .ok (.if_icmp .ge 95, 3) := by decide +kernel
theorem dX4_mends_63 : decode cX4_mends 63 = .ok (.iload_n 2, 1) := by decide +kernel
theorem dX4_mends_64 : decode cX4_mends 64 = .ok (.iload_n 3, 1) := by decide +kernel
theorem dX4_mends_65 : decode cX4_mends 65 = .ok (.invokestatic 65, 3) := by decide +kernel
theorem dX4_mends_68 : decode cX4_mends 68 = .ok (.istore 4, 2) := by decide +kernel
theorem dX4_mends_70 : decode cX4_mends 70 = .ok (.iload 4, 2) := by decide +kernel
theorem dX4_mends_72 : decode cX4_mends 72 = .ok (.ifCond .lt 38, 3) := by decide +kernel
theorem dX4_mends_75 : decode cX4_mends 75 = .ok (.aload_n 0, 1) := by decide +kernel
theorem dX4_mends_76 : decode cX4_mends 76 = .ok (.getfield 7, 3) := by decide +kernel
theorem dX4_mends_79 : decode cX4_mends 79 = .ok (.iconst 3, 1) := by decide +kernel
theorem dX4_mends_80 : decode cX4_mends 80 = .ok (.iload_n 2, 1) := by decide +kernel
theorem dX4_mends_81 : decode cX4_mends 81 = .ok (.iadd, 1) := by decide +kernel
theorem dX4_mends_82 : decode cX4_mends 82 = .ok (.iaload, 1) := by decide +kernel
theorem dX4_mends_83 : decode cX4_mends 83 = .ok (.iconst 1, 1) := by decide +kernel
theorem dX4_mends_84 : decode cX4_mends 84 = .ok (.if_icmp .ne 26, 3) := by decide +kernel
theorem dX4_mends_87 : decode cX4_mends 87 = .ok (.aload_n 0, 1) := by decide +kernel
theorem dX4_mends_88 : decode cX4_mends 88 = .ok (.getfield 7, 3) := by decide +kernel
theorem dX4_mends_91 : decode cX4_mends 91 = .ok (.iconst 3, 1) := by decide +kernel
theorem dX4_mends_92 : decode cX4_mends 92 = .ok (.iload 4, 2) := by decide +kernel
theorem dX4_mends_94 : decode cX4_mends 94 = .ok (.iadd, 1) := by decide +kernel
theorem dX4_mends_95 : decode cX4_mends 95 = .ok (.iaload, 1) := by decide +kernel
theorem dX4_mends_96 : decode cX4_mends 96 = .ok (.iconst 5, 1) := by decide +kernel
theorem dX4_mends_97 : decode cX4_mends 97 = .ok (.if_icmp .ne 13, 3) := by decide +kernel
theorem dX4_mends_100 : decode cX4_mends 100 = .ok (.aload_n 0, 1) := by decide +kernel
theorem dX4_mends_101 : decode cX4_mends 101 = .ok (.getfield 7, 3) := by decide +kernel
theorem dX4_mends_104 : decode cX4_mends 104 = .ok (.iconst 3, 1) := by decide +kernel
theorem dX4_mends_105 : decode cX4_mends 105 = .ok (.iload 4, 2) := by decide +kernel
theorem dX4_mends_107 : decode cX4_mends 107 = .ok (.iadd, 1) := by decide +kernel
theorem dX4_mends_108 : decode cX4_mends 108 = .ok (.iconst 0, 1) := by decide +kernel
theorem dX4_mends_109 : decode cX4_mends 109 = .ok (.iastore, 1) := by decide +kernel
theorem dX4_mends_110 : decode cX4_mends 110 = .ok (.iload 4, 2) := by decide +kernel
theorem dX4_mends_112 : decode cX4_mends 112 = .ok (.ifCond .lt 37, 3) := by decide +kernel
theorem dX4_mends_115 : decode cX4_mends 115 = .ok (.aload_n 0, 1) := by decide +kernel
theorem dX4_mends_116 : decode cX4_mends 116 = .ok (.getfield 7, 3) := by decide +kernel
theorem dX4_mends_119 : decode cX4_mends 119 = .ok (.iconst 3, 1) := by decide +kernel
theorem dX4_mends_120 : decode cX4_mends 120 = .ok (.iload_n 2, 1) := by decide +kernel
theorem dX4_mends_121 : decode cX4_mends 121 = .ok (.iadd, 1) := by decide +kernel
theorem dX4_mends_122 : decode cX4_mends 122 = .ok (.iaload, 1) := by decide +kernel
theorem dX4_mends_123 : decode cX4_mends 123 = .ok (.iconst 3, 1) := by decide +kernel
theorem dX4_mends_124 : decode cX4_mends 124 = .ok (.if_icmp .ne 25, 3) := by decide +kernel
theorem dX4_mends_127 : decode cX4_mends 127 = .ok (.aload_n 0, 1) := by decide +kernel
theorem dX4_mends_128 : decode cX4_mends 128 = .ok (.getfield 7, 3) := by decide +kernel
theorem dX4_mends_131 : decode cX4_mends 131 = .ok (.iconst 3, 1) := by decide +kernel
theorem dX4_mends_132 : decode cX4_mends 132 = .ok (.iload 4, 2) := by decide +kernel
theorem dX4_mends_134 : decode cX4_mends 134 = .ok (.iadd, 1) := by decide +kernel
theorem dX4_mends_135 : decode cX4_mends 135 = .ok (.iaload, 1) := by decide +kernel
theorem dX4_mends_136 : decode cX4_mends 136 = .ok (.ifCond .ne 13, 3) := by decide +kernel
theorem dX4_mends_139 : decode cX4_mends 139 = .ok (.aload_n 0, 1) := by decide +kernel
theorem dX4_mends_140 : decode cX4_mends 140 = .ok (.getfield 7, 3) := by decide +kernel
theorem dX4_mends_143 : decode cX4_mends 143 = .ok (.iconst 3, 1) := by decide +kernel
theorem dX4_mends_144 : decode cX4_mends 144 = .ok (.iload 4, 2) := by decide +kernel
theorem dX4_mends_146 : decode cX4_mends 146 = .ok (.iadd, 1) := by decide +kernel
theorem dX4_mends_147 : decode cX4_mends 147 = .ok (.iconst 5, 1) := by decide +kernel
theorem dX4_mends_148 : decode cX4_mends 148 = .ok (.iastore, 1) := by decide +kernel
theorem dX4_mends_149 : decode cX4_mends 149 = .ok (.iinc 3 1, 3) := by decide +kernel
theorem dX4_mends_152 : decode cX4_mends 152 = .ok (.goto (-94), 3) := by decide +kernel
theorem dX4_mends_155 : decode cX4_mends 155 = .ok (.return_, 1) := by decide +kernel
theorem dX4_pays_0 : decode cX4_pays 0 = .ok (.aload_n 0, 1) := by decide +kernel
theorem dX4_pays_1 : decode cX4_pays 1 = .ok (.iload_n 1, 1) := by decide +kernel
theorem dX4_pays_2 : decode cX4_pays 2 = .ok (.iload_n 2, 1) := by decide +kernel
theorem dX4_pays_3 : decode cX4_pays 3 = .ok (.invokevirtual 103, 3) := by decide +kernel
theorem dX4_pays_6 : decode cX4_pays 6 = .ok (.istore_n 3, 1) := by decide +kernel
theorem dX4_pays_7 : decode cX4_pays 7 = .ok (.aload_n 0, 1) := by decide +kernel
theorem dX4_pays_8 : decode cX4_pays 8 = .ok (.iload_n 1, 1) := by decide +kernel
theorem dX4_pays_9 : decode cX4_pays 9 = .ok (.iconst 2, 1) := by decide +kernel
theorem dX4_pays_10 : decode cX4_pays 10 = .ok (.invokevirtual 86, 3) := by decide +kernel
theorem dX4_pays_13 : decode cX4_pays 13 = .ok (.iload_n 3, 1) := by decide +kernel
theorem dX4_pays_14 : decode cX4_pays 14 = .ok (.if_icmp .ge 5, 3) := by decide +kernel
theorem dX4_pays_17 : decode cX4_pays 17 = .ok (.iconst 0, 1) := by decide +kernel
theorem dX4_pays_18 : decode cX4_pays 18 = .ok (.ireturn, 1) := by decide +kernel
theorem dX4_pays_19 : decode cX4_pays 19 = .ok (.aload_n 0, 1) := by decide +kernel
theorem dX4_pays_20 : decode cX4_pays 20 = .ok (.iload_n 1, 1) := by decide +kernel
theorem dX4_pays_21 : decode cX4_pays 21 = .ok (.iconst 3, 1) := by decide +kernel
theorem dX4_pays_22 : decode cX4_pays 22 = .ok (.invokevirtual 86, 3) := by decide +kernel
theorem dX4_pays_25 : decode cX4_pays 25 = .ok (.iload_n 3, 1) := by decide +kernel
theorem dX4_pays_26 : decode cX4_pays 26 = .ok (.iadd, 1) := by decide +kernel
theorem dX4_pays_27 : decode cX4_pays 27 = .ok (.istore 4, 2) := by decide +kernel
theorem dX4_pays_29 : decode cX4_pays 29 = .ok (.aload_n 0, 1) := by decide +kernel
theorem dX4_pays_30 : decode cX4_pays 30 = .ok (.getfield 7, 3) := by decide +kernel
theorem dX4_pays_33 : decode cX4_pays 33 = .ok (.iload_n 1, 1) := by decide +kernel
theorem dX4_pays_34 : decode cX4_pays 34 = .ok (.iconst 2, 1) := by decide +kernel
theorem dX4_pays_35 : decode cX4_pays 35 = .ok (.invokestatic 57, 3) := by decide +kernel
theorem dX4_pays_38 : decode cX4_pays 38 = .ok (.dup2, 1) := by decide +kernel
theorem dX4_pays_39 : decode cX4_pays 39 = .ok (.iaload, 1) := by decide +kernel
theorem dX4_pays_40 : decode cX4_pays 40 = .ok (.iload_n 3, 1) := by decide +kernel
theorem dX4_pays_41 : decode cX4_pays 41 = .ok (.isub, 1) := by decide +kernel
theorem dX4_pays_42 : decode cX4_pays 42 = .ok (.iastore, 1) := by decide +kernel
theorem dX4_pays_43 : decode cX4_pays 43 = .ok (.aload_n 0, 1) := by decide +kernel
theorem dX4_pays_44 : decode cX4_pays 44 = .ok (.getfield 7, 3) := by decide +kernel
theorem dX4_pays_47 : decode cX4_pays 47 = .ok (.iload_n 1, 1) := by decide +kernel
theorem dX4_pays_48 : decode cX4_pays 48 = .ok (.iconst 3, 1) := by decide +kernel
theorem dX4_pays_49 : decode cX4_pays 49 = .ok (.invokestatic 57, 3) := by decide +kernel
theorem dX4_pays_52 : decode cX4_pays 52 = .ok (.iload 4, 2) := by decide +kernel
theorem dX4_pays_54 : decode cX4_pays 54 = .ok (.ldc 123, 2) := by decide +kernel
theorem dX4_pays_56 : decode cX4_pays 56 = .ok (.if_icmp .le 8, 3) := by decide +kernel
theorem dX4_pays_59 : decode cX4_pays 59 = .ok (.ldc 123, 2) := by decide +kernel
theorem dX4_pays_61 : decode cX4_pays 61 = .ok (.goto 5, 3) := by decide +kernel
theorem dX4_pays_64 : decode cX4_pays 64 = .ok (.iload 4, 2) := by decide +kernel
theorem dX4_pays_66 : decode cX4_pays 66 = .ok (.iastore, 1) := by decide +kernel
theorem dX4_pays_67 : decode cX4_pays 67 = .ok (.aload_n 0, 1) := by decide +kernel
theorem dX4_pays_68 : decode cX4_pays 68 = .ok (.iload_n 1, 1) := by decide +kernel
theorem dX4_pays_69 : decode cX4_pays 69 = .ok (.iload_n 2, 1) := by decide +kernel
theorem dX4_pays_70 : decode cX4_pays 70 = .ok (.invokevirtual 124, 3) := by decide +kernel
theorem dX4_pays_73 : decode cX4_pays 73 = .ok (.iconst 1, 1) := by decide +kernel
theorem dX4_pays_74 : decode cX4_pays 74 = .ok (.ireturn, 1) := by decide +kernel
theorem dX4_mend_0 : decode cX4_mend 0 = .ok (.aload_n 0, 1) := by decide +kernel
theorem dX4_mend_1 : decode cX4_mend 1 = .ok (.iload_n 1, 1) := by decide +kernel
theorem dX4_mend_2 : decode cX4_mend 2 = .ok (.invokevirtual 109, 3) := by decide +kernel
theorem dX4_mend_5 : decode cX4_mend 5 = .ok (.ifCond .eq 10, 3) := by decide +kernel
theorem dX4_mend_8 : decode cX4_mend 8 = .ok (.iload_n 2, 1) := by decide +kernel
theorem dX4_mend_9 : decode cX4_mend 9 = .ok (.invokestatic 68, 3) := by decide +kernel
theorem dX4_mend_12 : decode cX4_mend 12 = .ok (.ifCond .ne 10, 3) := by decide +kernel
theorem dX4_mend_15 : decode cX4_mend 15 = .ok (.aload_n 0, 1) := by decide +kernel
theorem dX4_mend_16 : decode cX4_mend 16 = .ok (.ldc 48, 2) := by decide +kernel
theorem dX4_mend_18 : decode cX4_mend 18 = .ok (.invokevirtual 74, 3) := by decide +kernel
theorem dX4_mend_21 : decode cX4_mend 21 = .ok (.ireturn, 1) := by decide +kernel
theorem dX4_mend_22 : decode cX4_mend 22 = .ok (.aload_n 0, 1) := by decide +kernel
theorem dX4_mend_23 : decode cX4_mend 23 = .ok (.iload_n 2, 1) := by decide +kernel
theorem dX4_mend_24 : decode cX4_mend 24 = .ok (.invokevirtual 61, 3) := by decide +kernel
theorem dX4_mend_27 : decode cX4_mend 27 = .ok (.ifCond .eq 19, 3) := by decide +kernel
theorem dX4_mend_30 : decode cX4_mend 30 = .ok (.aload_n 0, 1) := by decide +kernel
theorem dX4_mend_31 : decode cX4_mend 31 = .ok (.iload_n 1, 1) := by decide +kernel
theorem dX4_mend_32 : decode cX4_mend 32 = .ok (.iload_n 2, 1) := by decide +kernel
theorem dX4_mend_33 : decode cX4_mend 33 = .ok (.invokevirtual 128, 3) := by decide +kernel
theorem dX4_mend_36 : decode cX4_mend 36 = .ok (.ifCond .eq 10, 3) := by decide +kernel
theorem dX4_mend_39 : decode cX4_mend 39 = .ok (.aload_n 0, 1) := by decide +kernel
theorem dX4_mend_40 : decode cX4_mend 40 = .ok (.invokevirtual 131, 3) := by decide +kernel
theorem dX4_mend_43 : decode cX4_mend 43 = .ok (.goto 9, 3) := by decide +kernel
theorem dX4_mend_46 : decode cX4_mend 46 = .ok (.aload_n 0, 1) := by decide +kernel
theorem dX4_mend_47 : decode cX4_mend 47 = .ok (.ldc 122, 2) := by decide +kernel
theorem dX4_mend_49 : decode cX4_mend 49 = .ok (.invokevirtual 74, 3) := by decide +kernel
theorem dX4_mend_52 : decode cX4_mend 52 = .ok (.ireturn, 1) := by decide +kernel
theorem dX4_year_0 : decode cX4_year 0 = .ok (.iconst 0, 1) := by decide +kernel
theorem dX4_year_1 : decode cX4_year 1 = .ok (.istore_n 1, 1) := by decide +kernel
theorem dX4_year_2 : decode cX4_year 2 = .ok (.iload_n 1, 1) := by decide +kernel
theorem dX4_year_3 : decode cX4_year 3 = .ok (.aload_n 0, 1) := by decide +kernel
theorem dX4_year_4 : decode cX4_year 4 = .ok (.getfield 7, 3) := by decide +kernel
theorem dX4_year_7 : decode cX4_year 7 = .ok (.iconst 0, 1) := by decide +kernel
theorem dX4_year_8 : decode cX4_year 8 = .ok (.iaload, 1) := by decide +kernel
theorem dX4_year_9 : decode cX4_year 9 = .ok (.if_icmp .ge 79, 3) := by decide +kernel
theorem dX4_year_12 : decode cX4_year 12 = .ok (.iload_n 1, 1) := by decide +kernel
theorem dX4_year_13 : decode cX4_year 13 = .ok (.aload_n 0, 1) := by decide +kernel
theorem dX4_year_14 : decode cX4_year 14 = .ok (.getfield 25, 3) := by decide +kernel
theorem dX4_year_17 : decode cX4_year 17 = .ok (.if_icmp .ne 7, 3) := by decide +kernel
theorem dX4_year_20 : decode cX4_year 20 = .ok (.iconst (-1), 1) := by decide +kernel
theorem dX4_year_21 : decode cX4_year 21 = .ok (.goto 8, 3) := by decide +kernel
theorem dX4_year_24 : decode cX4_year 24 = .ok (.aload_n 0, 1) := by decide +kernel
theorem dX4_year_25 : decode cX4_year 25 = .ok (.iload_n 1, 1) := by decide +kernel
theorem dX4_year_26 : decode cX4_year 26 = .ok (.invokevirtual 112, 3) := by decide +kernel
theorem dX4_year_29 : decode cX4_year 29 = .ok (.istore_n 2, 1) := by decide +kernel
theorem dX4_year_30 : decode cX4_year 30 = .ok (.iload_n 2, 1) := by decide +kernel
theorem dX4_year_31 : decode cX4_year 31 = .ok (.ifCond .lt 51, 3) := by decide +kernel
theorem dX4_year_34 : decode cX4_year 34 = .ok (.aload_n 0, 1) := by decide +kernel
theorem dX4_year_35 : decode cX4_year 35 = .ok (.iload_n 1, 1) := by decide +kernel
theorem dX4_year_36 : decode cX4_year 36 = .ok (.iload_n 2, 1) := by decide +kernel
theorem dX4_year_37 : decode cX4_year 37 = .ok (.invokevirtual 128, 3) := by decide +kernel
theorem dX4_year_40 : decode cX4_year 40 = .ok (.istore_n 3, 1) := by decide +kernel
theorem dX4_year_41 : decode cX4_year 41 = .ok (.aload_n 0, 1) := by decide +kernel
theorem dX4_year_42 : decode cX4_year 42 = .ok (.iload_n 1, 1) := by decide +kernel
theorem dX4_year_43 : decode cX4_year 43 = .ok (.iconst 2, 1) := by decide +kernel
theorem dX4_year_44 : decode cX4_year 44 = .ok (.invokevirtual 86, 3) := by decide +kernel
theorem dX4_year_47 : decode cX4_year 47 = .ok (.aload_n 0, 1) := by decide +kernel
theorem dX4_year_48 : decode cX4_year 48 = .ok (.getfield 7, 3) := by decide +kernel
theorem dX4_year_51 : decode cX4_year 51 = .ok (.iconst 2, 1) := by decide +kernel
theorem dX4_year_52 : decode cX4_year 52 = .ok (.iaload, 1) := by decide +kernel
theorem dX4_year_53 : decode cX4_year 53 = .ok (.iadd, 1) := by decide +kernel
theorem dX4_year_54 : decode cX4_year 54 = .ok (.istore 4, 2) := by decide +kernel
theorem dX4_year_56 : decode cX4_year 56 = .ok (.aload_n 0, 1) := by decide +kernel
theorem dX4_year_57 : decode cX4_year 57 = .ok (.getfield 7, 3) := by decide +kernel
theorem dX4_year_60 : decode cX4_year 60 = .ok (.iload_n 1, 1) := by decide +kernel
theorem dX4_year_61 : decode cX4_year 61 = .ok (.iconst 2, 1) := by decide +kernel
theorem dX4_year_62 : decode cX4_year 62 = .ok (.invokestatic 57, 3) := by decide +kernel
theorem dX4_year_65 : decode cX4_year 65 = .ok (.iload 4, 2) := by decide +kernel
theorem dX4_year_67 : decode cX4_year 67 = .ok (.sipush 9999, 3) := by decide +kernel
theorem dX4_year_70 : decode cX4_year 70 = .ok (.if_icmp .le 9, 3) := by decide +kernel
theorem dX4_year_73 : decode cX4_year 73 = .ok (.sipush 9999, 3) := by decide +kernel
theorem dX4_year_76 : decode cX4_year 76 = .ok (.goto 5, 3) := by decide +kernel
theorem dX4_year_79 : decode cX4_year 79 = .ok (.iload 4, 2) := by decide +kernel
theorem dX4_year_81 : decode cX4_year 81 = .ok (.iastore, 1) := by decide +kernel
theorem dX4_year_82 : decode cX4_year 82 = .ok (.iinc 1 1, 3) := by decide +kernel
theorem dX4_year_85 : decode cX4_year 85 = .ok (.goto (-83), 3) := by decide +kernel
theorem dX4_year_88 : decode cX4_year 88 = .ok (.aload_n 0, 1) := by decide +kernel
theorem dX4_year_89 : decode cX4_year 89 = .ok (.getfield 7, 3) := by decide +kernel
theorem dX4_year_92 : decode cX4_year 92 = .ok (.iconst 1, 1) := by decide +kernel
theorem dX4_year_93 : decode cX4_year 93 = .ok (.dup2, 1) := by decide +kernel
theorem dX4_year_94 : decode cX4_year 94 = .ok (.iaload, 1) := by decide +kernel
theorem dX4_year_95 : decode cX4_year 95 = .ok (.iconst 1, 1) := by decide +kernel
theorem dX4_year_96 : decode cX4_year 96 = .ok (.iadd, 1) := by decide +kernel
theorem dX4_year_97 : decode cX4_year 97 = .ok (.iastore, 1) := by decide +kernel
theorem dX4_year_98 : decode cX4_year 98 = .ok (.return_, 1) := by decide +kernel
theorem dX4_goesOn_0 : decode cX4_goesOn 0 = .ok (.iconst 0, 1) := by decide +kernel
theorem dX4_goesOn_1 : decode cX4_goesOn 1 = .ok (.istore_n 2, 1) := by decide +kernel
theorem dX4_goesOn_2 : decode cX4_goesOn 2 = .ok (.iload_n 2, 1) := by decide +kernel
theorem dX4_goesOn_3 : decode cX4_goesOn 3 = .ok (.iload_n 1, 1) := by decide +kernel
theorem dX4_goesOn_4 : decode cX4_goesOn 4 = .ok (.if_icmp .ge 13, 3) := by decide +kernel
theorem dX4_goesOn_7 : decode cX4_goesOn 7 = .ok (.aload_n 0, 1) := by decide +kernel
theorem dX4_goesOn_8 : decode cX4_goesOn 8 = .ok (.invokevirtual 135, 3) := by decide +kernel
theorem dX4_goesOn_11 : decode cX4_goesOn 11 = .ok (.iinc 2 1, 3) := by decide +kernel
theorem dX4_goesOn_14 : decode cX4_goesOn 14 = .ok (.goto (-12), 3) := by decide +kernel
theorem dX4_goesOn_17 : decode cX4_goesOn 17 = .ok (.return_, 1) := by decide +kernel
theorem dX4_years_0 : decode cX4_years 0 = .ok (.iload_n 1, 1) := by decide +kernel
theorem dX4_years_1 : decode cX4_years 1 = .ok (.i2l, 1) := by decide +kernel
theorem dX4_years_2 : decode cX4_years 2 = .ok (.lconst 1, 1) := by decide +kernel
theorem dX4_years_3 : decode cX4_years 3 = .ok (.ldc2_w 138, 3) := by decide +kernel
theorem dX4_years_6 : decode cX4_years 6 = .ok (.invokestatic 51, 3) := by decide +kernel
theorem dX4_years_9 : decode cX4_years 9 = .ok (.ifCond .ne 10, 3) := by decide +kernel
theorem dX4_years_12 : decode cX4_years 12 = .ok (.aload_n 0, 1) := by decide +kernel
theorem dX4_years_13 : decode cX4_years 13 = .ok (.ldc 48, 2) := by decide +kernel
theorem dX4_years_15 : decode cX4_years 15 = .ok (.invokevirtual 74, 3) := by decide +kernel
theorem dX4_years_18 : decode cX4_years 18 = .ok (.ireturn, 1) := by decide +kernel
theorem dX4_years_19 : decode cX4_years 19 = .ok (.aload_n 0, 1) := by decide +kernel
theorem dX4_years_20 : decode cX4_years 20 = .ok (.getfield 7, 3) := by decide +kernel
theorem dX4_years_23 : decode cX4_years 23 = .ok (.iconst 1, 1) := by decide +kernel
theorem dX4_years_24 : decode cX4_years 24 = .ok (.iaload, 1) := by decide +kernel
theorem dX4_years_25 : decode cX4_years 25 = .ok (.iload_n 1, 1) := by decide +kernel
theorem dX4_years_26 : decode cX4_years 26 = .ok (.iadd, 1) := by decide +kernel
theorem dX4_years_27 : decode cX4_years 27 = .ok (.sipush 9999, 3) := by decide +kernel
theorem dX4_years_30 : decode cX4_years 30 = .ok (.if_icmp .le 10, 3) := by decide +kernel
theorem dX4_years_33 : decode cX4_years 33 = .ok (.aload_n 0, 1) := by decide +kernel
theorem dX4_years_34 : decode cX4_years 34 = .ok (.ldc 122, 2) := by decide +kernel
theorem dX4_years_36 : decode cX4_years 36 = .ok (.invokevirtual 74, 3) := by decide +kernel
theorem dX4_years_39 : decode cX4_years 39 = .ok (.ireturn, 1) := by decide +kernel
theorem dX4_years_40 : decode cX4_years 40 = .ok (.aload_n 0, 1) := by decide +kernel
theorem dX4_years_41 : decode cX4_years 41 = .ok (.iload_n 1, 1) := by decide +kernel
theorem dX4_years_42 : decode cX4_years 42 = .ok (.invokevirtual 140, 3) := by decide +kernel
theorem dX4_years_45 : decode cX4_years 45 = .ok (.aload_n 0, 1) := by decide +kernel
theorem dX4_years_46 : decode cX4_years 46 = .ok (.invokevirtual 131, 3) := by decide +kernel
theorem dX4_years_49 : decode cX4_years 49 = .ok (.ireturn, 1) := by decide +kernel
theorem dX4_together_0 : decode cX4_together 0 = .ok (.iconst 0, 1) := by decide +kernel
theorem dX4_together_1 : decode cX4_together 1 = .ok (.istore_n 2, 1) := by decide +kernel
theorem dX4_together_2 : decode cX4_together 2 = .ok (.iconst 0, 1) := by decide +kernel
theorem dX4_together_3 : decode cX4_together 3 = .ok (.istore_n 3, 1) := by decide +kernel
theorem dX4_together_4 : decode cX4_together 4 = .ok (.iload_n 3, 1) := by decide +kernel
theorem dX4_together_5 : decode cX4_together 5 = .ok (.aload_n 0, 1) := by decide +kernel
theorem dX4_together_6 : decode cX4_together 6 = .ok (.getfield 7, 3) := by decide +kernel
theorem dX4_together_9 : decode cX4_together 9 = .ok (.iconst 0, 1) := by decide +kernel
theorem dX4_together_10 : decode cX4_together 10 = .ok (.iaload, 1) := by decide +kernel
theorem dX4_together_11 : decode cX4_together 11 = .ok (.if_icmp .ge 18, 3) := by decide +kernel
theorem dX4_together_14 : decode cX4_together 14 = .ok (.iload_n 2, 1) := by decide +kernel
theorem dX4_together_15 : decode cX4_together 15 = .ok (.aload_n 0, 1) := by decide +kernel
theorem dX4_together_16 : decode cX4_together 16 = .ok (.iload_n 3, 1) := by decide +kernel
theorem dX4_together_17 : decode cX4_together 17 = .ok (.iload_n 1, 1) := by decide +kernel
theorem dX4_together_18 : decode cX4_together 18 = .ok (.invokevirtual 86, 3) := by decide +kernel
theorem dX4_together_21 : decode cX4_together 21 = .ok (.iadd, 1) := by decide +kernel
theorem dX4_together_22 : decode cX4_together 22 = .ok (.istore_n 2, 1) := by decide +kernel
theorem dX4_together_23 : decode cX4_together 23 = .ok (.iinc 3 1, 3) := by decide +kernel
theorem dX4_together_26 : decode cX4_together 26 = .ok (.goto (-22), 3) := by decide +kernel
theorem dX4_together_29 : decode cX4_together 29 = .ok (.iload_n 2, 1) := by decide +kernel
theorem dX4_together_30 : decode cX4_together 30 = .ok (.ireturn, 1) := by decide +kernel
theorem dX4_now_0 : decode cX4_now 0 = .ok (.iload_n 1, 1) := by decide +kernel
theorem dX4_now_1 : decode cX4_now 1 = .ok (.tableswitch 66 0 4 #[35, 42, 47, 53, 59], 35) := by decide +kernel
theorem dX4_now_36 : decode cX4_now 36 = .ok (.aload_n 0, 1) := by decide +kernel
theorem dX4_now_37 : decode cX4_now 37 = .ok (.getfield 7, 3) := by decide +kernel
theorem dX4_now_40 : decode cX4_now 40 = .ok (.iconst 1, 1) := by decide +kernel
theorem dX4_now_41 : decode cX4_now 41 = .ok (.iaload, 1) := by decide +kernel
theorem dX4_now_42 : decode cX4_now 42 = .ok (.ireturn, 1) := by decide +kernel
theorem dX4_now_43 : decode cX4_now 43 = .ok (.aload_n 0, 1) := by decide +kernel
theorem dX4_now_44 : decode cX4_now 44 = .ok (.invokevirtual 131, 3) := by decide +kernel
theorem dX4_now_47 : decode cX4_now 47 = .ok (.ireturn, 1) := by decide +kernel
theorem dX4_now_48 : decode cX4_now 48 = .ok (.aload_n 0, 1) := by decide +kernel
theorem dX4_now_49 : decode cX4_now 49 = .ok (.iconst 2, 1) := by decide +kernel
theorem dX4_now_50 : decode cX4_now 50 = .ok (.invokevirtual 144, 3) := by decide +kernel
theorem dX4_now_53 : decode cX4_now 53 = .ok (.ireturn, 1) := by decide +kernel
theorem dX4_now_54 : decode cX4_now 54 = .ok (.aload_n 0, 1) := by decide +kernel
theorem dX4_now_55 : decode cX4_now 55 = .ok (.iconst 3, 1) := by decide +kernel
theorem dX4_now_56 : decode cX4_now 56 = .ok (.invokevirtual 144, 3) := by decide +kernel
theorem dX4_now_59 : decode cX4_now 59 = .ok (.ireturn, 1) := by decide +kernel
theorem dX4_now_60 : decode cX4_now 60 = .ok (.aload_n 0, 1) := by decide +kernel
theorem dX4_now_61 : decode cX4_now 61 = .ok (.getfield 7, 3) := by decide +kernel
theorem dX4_now_64 : decode cX4_now 64 = .ok (.iconst 2, 1) := by decide +kernel
theorem dX4_now_65 : decode cX4_now 65 = .ok (.iaload, 1) := by decide +kernel
theorem dX4_now_66 : decode cX4_now 66 = .ok (.ireturn, 1) := by decide +kernel
theorem dX4_now_67 : decode cX4_now 67 = .ok (.aload_n 0, 1) := by decide +kernel
theorem dX4_now_68 : decode cX4_now 68 = .ok (.ldc 48, 2) := by decide +kernel
theorem dX4_now_70 : decode cX4_now 70 = .ok (.invokevirtual 74, 3) := by decide +kernel
theorem dX4_now_73 : decode cX4_now 73 = .ok (.ireturn, 1) := by decide +kernel
theorem dX4_on_0 : decode cX4_on 0 = .ok (.aload_n 0, 1) := by decide +kernel
theorem dX4_on_1 : decode cX4_on 1 = .ok (.iload_n 1, 1) := by decide +kernel
theorem dX4_on_2 : decode cX4_on 2 = .ok (.invokevirtual 109, 3) := by decide +kernel
theorem dX4_on_5 : decode cX4_on 5 = .ok (.ifCond .eq 27, 3) := by decide +kernel
theorem dX4_on_8 : decode cX4_on 8 = .ok (.iload_n 2, 1) := by decide +kernel
theorem dX4_on_9 : decode cX4_on 9 = .ok (.i2l, 1) := by decide +kernel
theorem dX4_on_10 : decode cX4_on 10 = .ok (.lconst 0, 1) := by decide +kernel
theorem dX4_on_11 : decode cX4_on 11 = .ok (.ldc2_w 138, 3) := by decide +kernel
theorem dX4_on_14 : decode cX4_on 14 = .ok (.invokestatic 51, 3) := by decide +kernel
theorem dX4_on_17 : decode cX4_on 17 = .ok (.ifCond .eq 15, 3) := by decide +kernel
theorem dX4_on_20 : decode cX4_on 20 = .ok (.iload_n 3, 1) := by decide +kernel
theorem dX4_on_21 : decode cX4_on 21 = .ok (.i2l, 1) := by decide +kernel
theorem dX4_on_22 : decode cX4_on 22 = .ok (.lconst 0, 1) := by decide +kernel
theorem dX4_on_23 : decode cX4_on 23 = .ok (.ldc2_w 147, 3) := by decide +kernel
theorem dX4_on_26 : decode cX4_on 26 = .ok (.invokestatic 51, 3) := by decide +kernel
theorem dX4_on_29 : decode cX4_on 29 = .ok (.ifCond .ne 10, 3) := by decide +kernel
theorem dX4_on_32 : decode cX4_on 32 = .ok (.aload_n 0, 1) := by decide +kernel
theorem dX4_on_33 : decode cX4_on 33 = .ok (.ldc 48, 2) := by decide +kernel
theorem dX4_on_35 : decode cX4_on 35 = .ok (.invokevirtual 74, 3) := by decide +kernel
theorem dX4_on_38 : decode cX4_on 38 = .ok (.ireturn, 1) := by decide +kernel
theorem dX4_on_39 : decode cX4_on 39 = .ok (.aload_n 0, 1) := by decide +kernel
theorem dX4_on_40 : decode cX4_on 40 = .ok (.invokevirtual 149, 3) := by decide +kernel
theorem dX4_on_43 : decode cX4_on 43 = .ok (.aload_n 0, 1) := by decide +kernel
theorem dX4_on_44 : decode cX4_on 44 = .ok (.iload_n 2, 1) := by decide +kernel
theorem dX4_on_45 : decode cX4_on 45 = .ok (.invokevirtual 140, 3) := by decide +kernel
theorem dX4_on_48 : decode cX4_on 48 = .ok (.aload_n 0, 1) := by decide +kernel
theorem dX4_on_49 : decode cX4_on 49 = .ok (.aload_n 0, 1) := by decide +kernel
theorem dX4_on_50 : decode cX4_on 50 = .ok (.iload_n 1, 1) := by decide +kernel
theorem dX4_on_51 : decode cX4_on 51 = .ok (.iconst 1, 1) := by decide +kernel
theorem dX4_on_52 : decode cX4_on 52 = .ok (.iload_n 3, 1) := by decide +kernel
theorem dX4_on_53 : decode cX4_on 53 = .ok (.iadd, 1) := by decide +kernel
theorem dX4_on_54 : decode cX4_on 54 = .ok (.invokevirtual 86, 3) := by decide +kernel
theorem dX4_on_57 : decode cX4_on 57 = .ok (.invokevirtual 152, 3) := by decide +kernel
theorem dX4_on_60 : decode cX4_on 60 = .ok (.ireturn, 1) := by decide +kernel
theorem dX4_wrongOn_0 : decode cX4_wrongOn 0 = .ok (.aload_n 0, 1) := by decide +kernel
theorem dX4_wrongOn_1 : decode cX4_wrongOn 1 = .ok (.invokevirtual 149, 3) := by decide +kernel
theorem dX4_wrongOn_4 : decode cX4_wrongOn 4 = .ok (.aload_n 0, 1) := by decide +kernel
theorem dX4_wrongOn_5 : decode cX4_wrongOn 5 = .ok (.iload_n 1, 1) := by decide +kernel
theorem dX4_wrongOn_6 : decode cX4_wrongOn 6 = .ok (.invokevirtual 140, 3) := by decide +kernel
theorem dX4_wrongOn_9 : decode cX4_wrongOn 9 = .ok (.aload_n 0, 1) := by decide +kernel
theorem dX4_wrongOn_10 : decode cX4_wrongOn 10 = .ok (.aload_n 0, 1) := by decide +kernel
theorem dX4_wrongOn_11 : decode cX4_wrongOn 11 = .ok (.invokevirtual 131, 3) := by decide +kernel
theorem dX4_wrongOn_14 : decode cX4_wrongOn 14 = .ok (.invokevirtual 152, 3) := by decide +kernel
theorem dX4_wrongOn_17 : decode cX4_wrongOn 17 = .ok (.ireturn, 1) := by decide +kernel
theorem dX4_wrong_0 : decode cX4_wrong 0 = .ok (.iload_n 1, 1) := by decide +kernel
theorem dX4_wrong_1 : decode cX4_wrong 1 = .ok (.i2l, 1) := by decide +kernel
theorem dX4_wrong_2 : decode cX4_wrong 2 = .ok (.lconst 0, 1) := by decide +kernel
theorem dX4_wrong_3 : decode cX4_wrong 3 = .ok (.ldc2_w 138, 3) := by decide +kernel
theorem dX4_wrong_6 : decode cX4_wrong 6 = .ok (.invokestatic 51, 3) := by decide +kernel
theorem dX4_wrong_9 : decode cX4_wrong 9 = .ok (.ifCond .eq 11, 3) := by decide +kernel
theorem dX4_wrong_12 : decode cX4_wrong 12 = .ok (.aload_n 0, 1) := by decide +kernel
theorem dX4_wrong_13 : decode cX4_wrong 13 = .ok (.iload_n 1, 1) := by decide +kernel
theorem dX4_wrong_14 : decode cX4_wrong 14 = .ok (.invokevirtual 155, 3) := by decide +kernel
theorem dX4_wrong_17 : decode cX4_wrong 17 = .ok (.goto 9, 3) := by decide +kernel
theorem dX4_wrong_20 : decode cX4_wrong 20 = .ok (.aload_n 0, 1) := by decide +kernel
theorem dX4_wrong_21 : decode cX4_wrong 21 = .ok (.ldc 48, 2) := by decide +kernel
theorem dX4_wrong_23 : decode cX4_wrong 23 = .ok (.invokevirtual 74, 3) := by decide +kernel
theorem dX4_wrong_26 : decode cX4_wrong 26 = .ok (.ireturn, 1) := by decide +kernel
theorem dX4_done_0 : decode cX4_done 0 = .ok (.aload_n 0, 1) := by decide +kernel
theorem dX4_done_1 : decode cX4_done 1 = .ok (.invokevirtual 149, 3) := by decide +kernel
theorem dX4_done_4 : decode cX4_done 4 = .ok (.iconst 0, 1) := by decide +kernel
theorem dX4_done_5 : decode cX4_done 5 = .ok (.istore_n 1, 1) := by decide +kernel
theorem dX4_done_6 : decode cX4_done 6 = .ok (.iload_n 1, 1) := by decide +kernel
theorem dX4_done_7 : decode cX4_done 7 = .ok (.bipush 60, 2) := by decide +kernel
theorem dX4_done_9 : decode cX4_done 9 = .ok (.if_icmp .gt 20, 3) := by decide +kernel
theorem dX4_done_12 : decode cX4_done 12 = .ok (.aload_n 0, 1) := by decide +kernel
theorem dX4_done_13 : decode cX4_done 13 = .ok (.invokevirtual 131, 3) := by decide +kernel
theorem dX4_done_16 : decode cX4_done 16 = .ok (.ifCond .le 13, 3) := by decide +kernel
theorem dX4_done_19 : decode cX4_done 19 = .ok (.aload_n 0, 1) := by decide +kernel
theorem dX4_done_20 : decode cX4_done 20 = .ok (.invokevirtual 135, 3) := by decide +kernel
theorem dX4_done_23 : decode cX4_done 23 = .ok (.iinc 1 1, 3) := by decide +kernel
theorem dX4_done_26 : decode cX4_done 26 = .ok (.goto (-20), 3) := by decide +kernel
theorem dX4_done_29 : decode cX4_done 29 = .ok (.aload_n 0, 1) := by decide +kernel
theorem dX4_done_30 : decode cX4_done 30 = .ok (.iload_n 1, 1) := by decide +kernel
theorem dX4_done_31 : decode cX4_done 31 = .ok (.invokevirtual 152, 3) := by decide +kernel
theorem dX4_done_34 : decode cX4_done 34 = .ok (.istore_n 2, 1) := by decide +kernel
theorem dX4_done_35 : decode cX4_done 35 = .ok (.iload_n 2, 1) := by decide +kernel
theorem dX4_done_36 : decode cX4_done 36 = .ok (.bipush 60, 2) := by decide +kernel
theorem dX4_done_38 : decode cX4_done 38 = .ok (.if_icmp .le 12, 3) := by decide +kernel
theorem dX4_done_41 : decode cX4_done 41 = .ok (.aload_n 0, 1) := by decide +kernel
theorem dX4_done_42 : decode cX4_done 42 = .ok (.ldc 158, 2) := by decide +kernel
theorem dX4_done_44 : decode cX4_done 44 = .ok (.invokevirtual 74, 3) := by decide +kernel
theorem dX4_done_47 : decode cX4_done 47 = .ok (.goto 4, 3) := by decide +kernel
theorem dX4_done_50 : decode cX4_done 50 = .ok (.iload_n 2, 1) := by decide +kernel
theorem dX4_done_51 : decode cX4_done 51 = .ok (.ireturn, 1) := by decide +kernel
theorem dX4_when_0 : decode cX4_when 0 = .ok (.iload_n 1, 1) := by decide +kernel
theorem dX4_when_1 : decode cX4_when 1 = .ok (.invokestatic 68, 3) := by decide +kernel
theorem dX4_when_4 : decode cX4_when 4 = .ok (.ifCond .ne 10, 3) := by decide +kernel
theorem dX4_when_7 : decode cX4_when 7 = .ok (.aload_n 0, 1) := by decide +kernel
theorem dX4_when_8 : decode cX4_when 8 = .ok (.ldc 48, 2) := by decide +kernel
theorem dX4_when_10 : decode cX4_when 10 = .ok (.invokevirtual 74, 3) := by decide +kernel
theorem dX4_when_13 : decode cX4_when 13 = .ok (.ireturn, 1) := by decide +kernel
theorem dX4_when_14 : decode cX4_when 14 = .ok (.aload_n 0, 1) := by decide +kernel
theorem dX4_when_15 : decode cX4_when 15 = .ok (.invokevirtual 149, 3) := by decide +kernel
theorem dX4_when_18 : decode cX4_when 18 = .ok (.iconst 0, 1) := by decide +kernel
theorem dX4_when_19 : decode cX4_when 19 = .ok (.istore_n 2, 1) := by decide +kernel
theorem dX4_when_20 : decode cX4_when 20 = .ok (.iload_n 2, 1) := by decide +kernel
theorem dX4_when_21 : decode cX4_when 21 = .ok (.bipush 60, 2) := by decide +kernel
theorem dX4_when_23 : decode cX4_when 23 = .ok (.if_icmp .gt 21, 3) := by decide +kernel
theorem dX4_when_26 : decode cX4_when 26 = .ok (.aload_n 0, 1) := by decide +kernel
theorem dX4_when_27 : decode cX4_when 27 = .ok (.iload_n 1, 1) := by decide +kernel
theorem dX4_when_28 : decode cX4_when 28 = .ok (.invokevirtual 61, 3) := by decide +kernel
theorem dX4_when_31 : decode cX4_when 31 = .ok (.ifCond .eq 13, 3) := by decide +kernel
theorem dX4_when_34 : decode cX4_when 34 = .ok (.aload_n 0, 1) := by decide +kernel
theorem dX4_when_35 : decode cX4_when 35 = .ok (.invokevirtual 135, 3) := by decide +kernel
theorem dX4_when_38 : decode cX4_when 38 = .ok (.iinc 2 1, 3) := by decide +kernel
theorem dX4_when_41 : decode cX4_when 41 = .ok (.goto (-21), 3) := by decide +kernel
theorem dX4_when_44 : decode cX4_when 44 = .ok (.aload_n 0, 1) := by decide +kernel
theorem dX4_when_45 : decode cX4_when 45 = .ok (.iload_n 2, 1) := by decide +kernel
theorem dX4_when_46 : decode cX4_when 46 = .ok (.invokevirtual 152, 3) := by decide +kernel
theorem dX4_when_49 : decode cX4_when 49 = .ok (.istore_n 3, 1) := by decide +kernel
theorem dX4_when_50 : decode cX4_when 50 = .ok (.iload_n 3, 1) := by decide +kernel
theorem dX4_when_51 : decode cX4_when 51 = .ok (.bipush 60, 2) := by decide +kernel
theorem dX4_when_53 : decode cX4_when 53 = .ok (.if_icmp .le 12, 3) := by decide +kernel
theorem dX4_when_56 : decode cX4_when 56 = .ok (.aload_n 0, 1) := by decide +kernel
theorem dX4_when_57 : decode cX4_when 57 = .ok (.ldc 158, 2) := by decide +kernel
theorem dX4_when_59 : decode cX4_when 59 = .ok (.invokevirtual 74, 3) := by decide +kernel
theorem dX4_when_62 : decode cX4_when 62 = .ok (.goto 4, 3) := by decide +kernel
theorem dX4_when_65 : decode cX4_when 65 = .ok (.iload_n 3, 1) := by decide +kernel
theorem dX4_when_66 : decode cX4_when 66 = .ok (.ireturn, 1) := by decide +kernel
theorem dX4_cheapest_0 : decode cX4_cheapest 0 = .ok (.aload_n 0, 1) := by decide +kernel
theorem dX4_cheapest_1 : decode cX4_cheapest 1 = .ok (.iload_n 1, 1) := by decide +kernel
theorem dX4_cheapest_2 : decode cX4_cheapest 2 = .ok (.invokevirtual 109, 3) := by decide +kernel
theorem dX4_cheapest_5 : decode cX4_cheapest 5 = .ok (.ifCond .ne 10, 3) := by decide +kernel
theorem dX4_cheapest_8 : decode cX4_cheapest 8 = .ok (.aload_n 0, 1) := by decide +kernel
theorem dX4_cheapest_9 : decode cX4_cheapest 9 = .ok (.ldc 48, 2) := by decide +kernel
theorem dX4_cheapest_11 : decode cX4_cheapest 11 = .ok (.invokevirtual 74, 3) := by decide +kernel
theorem dX4_cheapest_14 : decode cX4_cheapest 14 = .ok (.ireturn, 1) := by decide +kernel
theorem dX4_cheapest_15 : decode cX4_cheapest 15 = .ok (.iconst (-1), 1) := by decide +kernel
theorem dX4_cheapest_16 : decode cX4_cheapest 16 = .ok (.istore_n 2, 1) := by decide +kernel
theorem dX4_cheapest_17 : decode cX4_cheapest 17 = .ok (.iconst 0, 1) := by decide +kernel
theorem dX4_cheapest_18 : decode cX4_cheapest 18 = .ok (.istore_n 3, 1) := by decide +kernel
theorem dX4_cheapest_19 : decode cX4_cheapest 19 = .ok (.iload_n 3, 1) := by decide +kernel
theorem dX4_cheapest_20 : decode cX4_cheapest 20 = .ok (.bipush 48, 2) := by decide +kernel
theorem dX4_cheapest_22 : decode cX4_cheapest 22 = .ok (.if_icmp .ge 42, 3) := by decide +kernel
end
section
theorem dX4_cheapest_25 : decode cX4_cheapest 25 = .ok (.aload_n 0, 1) := by decide +kernel
theorem dX4_cheapest_26 : decode cX4_cheapest 26 = .ok (.iload_n 3, 1) := by decide +kernel
theorem dX4_cheapest_27 : decode cX4_cheapest 27 = .ok (.invokevirtual 61, 3) := by decide +kernel
theorem dX4_cheapest_30 : decode cX4_cheapest 30 = .ok (.ifCond .eq 26, 3) := by decide +kernel
theorem dX4_cheapest_33 : decode cX4_cheapest 33 = .ok (.iload_n 2, 1) := by decide +kernel
theorem dX4_cheapest_34 : decode cX4_cheapest 34 = .ok (.ifCond .lt 18, 3) := by decide +kernel
theorem dX4_cheapest_37 : decode cX4_cheapest 37 = .ok (.aload_n 0, 1) := by decide +kernel
theorem dX4_cheapest_38 : decode cX4_cheapest 38 = .ok (.iload_n 1, 1) := by decide +kernel
theorem dX4_cheapest_39 : decode cX4_cheapest 39 = .ok (.iload_n 3, 1) := by decide +kernel
theorem dX4_cheapest_40 : decode cX4_cheapest 40 = .ok (.invokevirtual 103, 3) := by decide +kernel
theorem dX4_cheapest_43 : decode cX4_cheapest 43 = .ok (.aload_n 0, 1) := by decide +kernel
theorem dX4_cheapest_44 : decode cX4_cheapest 44 = .ok (.iload_n 1, 1) := by decide +kernel
theorem dX4_cheapest_45 : decode cX4_cheapest 45 = .ok (.iload_n 2, 1) := by decide +kernel
theorem dX4_cheapest_46 : decode cX4_cheapest 46 = .ok (.invokevirtual 103, 3) := by decide +kernel
theorem dX4_cheapest_49 : decode cX4_cheapest 49 = .ok (.if_icmp .ge 7, 3) := by decide +kernel
theorem dX4_cheapest_52 : decode cX4_cheapest 52 = .ok (.iload_n 3, 1) := by decide +kernel
theorem dX4_cheapest_53 : decode cX4_cheapest 53 = .ok (.goto 4, 3) := by decide +kernel
theorem dX4_cheapest_56 : decode cX4_cheapest 56 = .ok (.iload_n 2, 1) := by decide +kernel
theorem dX4_cheapest_57 : decode cX4_cheapest 57 = .ok (.istore_n 2, 1) := by decide +kernel
theorem dX4_cheapest_58 : decode cX4_cheapest 58 = .ok (.iinc 3 1, 3) := by decide +kernel
theorem dX4_cheapest_61 : decode cX4_cheapest 61 = .ok (.goto (-42), 3) := by decide +kernel
theorem dX4_cheapest_64 : decode cX4_cheapest 64 = .ok (.iload_n 2, 1) := by decide +kernel
theorem dX4_cheapest_65 : decode cX4_cheapest 65 = .ok (.ifCond .ge 12, 3) := by decide +kernel
theorem dX4_cheapest_68 : decode cX4_cheapest 68 = .ok (.aload_n 0, 1) := by decide +kernel
theorem dX4_cheapest_69 : decode cX4_cheapest 69 = .ok (.ldc 158, 2) := by decide +kernel
theorem dX4_cheapest_71 : decode cX4_cheapest 71 = .ok (.invokevirtual 74, 3) := by decide +kernel
theorem dX4_cheapest_74 : decode cX4_cheapest 74 = .ok (.goto 4, 3) := by decide +kernel
theorem dX4_cheapest_77 : decode cX4_cheapest 77 = .ok (.iload_n 2, 1) := by decide +kernel
theorem dX4_cheapest_78 : decode cX4_cheapest 78 = .ok (.ireturn, 1) := by decide +kernel
theorem dX4_best_0 : decode cX4_best 0 = .ok (.aload_n 0, 1) := by decide +kernel
theorem dX4_best_1 : decode cX4_best 1 = .ok (.iload_n 1, 1) := by decide +kernel
theorem dX4_best_2 : decode cX4_best 2 = .ok (.invokevirtual 109, 3) := by decide +kernel
theorem dX4_best_5 : decode cX4_best 5 = .ok (.ifCond .ne 10, 3) := by decide +kernel
theorem dX4_best_8 : decode cX4_best 8 = .ok (.aload_n 0, 1) := by decide +kernel
theorem dX4_best_9 : decode cX4_best 9 = .ok (.ldc 48, 2) := by decide +kernel
theorem dX4_best_11 : decode cX4_best 11 = .ok (.invokevirtual 74, 3) := by decide +kernel
theorem dX4_best_14 : decode cX4_best 14 = .ok (.ireturn, 1) := by decide +kernel
theorem dX4_best_15 : decode cX4_best 15 = .ok (.iconst (-1), 1) := by decide +kernel
theorem dX4_best_16 : decode cX4_best 16 = .ok (.istore_n 2, 1) := by decide +kernel
theorem dX4_best_17 : decode cX4_best 17 = .ok (.bipush 48, 2) := by decide +kernel
theorem dX4_best_19 : decode cX4_best 19 = .ok (.istore_n 3, 1) := by decide +kernel
theorem dX4_best_20 : decode cX4_best 20 = .ok (.iconst 0, 1) := by decide +kernel
theorem dX4_best_21 : decode cX4_best 21 = .ok (.istore 4, 2) := by decide +kernel
theorem dX4_best_23 : decode cX4_best 23 = .ok (.iload 4, 2) := by decide +kernel
theorem dX4_best_25 : decode cX4_best 25 = .ok (.bipush 48, 2) := by decide +kernel
theorem dX4_best_27 : decode cX4_best 27 = .ok (.if_icmp .ge 68, 3) := by decide +kernel
theorem dX4_best_30 : decode cX4_best 30 = .ok (.aload_n 0, 1) := by decide +kernel
theorem dX4_best_31 : decode cX4_best 31 = .ok (.iload 4, 2) := by decide +kernel
theorem dX4_best_33 : decode cX4_best 33 = .ok (.invokevirtual 61, 3) := by decide +kernel
theorem dX4_best_36 : decode cX4_best 36 = .ok (.ifCond .ne 6, 3) := by decide +kernel
theorem dX4_best_39 : decode cX4_best 39 = .ok (.goto 50, 3) := by decide +kernel
theorem dX4_best_42 : decode cX4_best 42 = .ok (.aload_n 0, 1) := by decide +kernel
theorem dX4_best_43 : decode cX4_best 43 = .ok (.invokevirtual 149, 3) := by decide +kernel
theorem dX4_best_46 : decode cX4_best 46 = .ok (.aload_n 0, 1) := by decide +kernel
theorem dX4_best_47 : decode cX4_best 47 = .ok (.iload_n 1, 1) := by decide +kernel
theorem dX4_best_48 : decode cX4_best 48 = .ok (.iload 4, 2) := by decide +kernel
theorem dX4_best_50 : decode cX4_best 50 = .ok (.invokevirtual 124, 3) := by decide +kernel
theorem dX4_best_53 : decode cX4_best 53 = .ok (.aload_n 0, 1) := by decide +kernel
theorem dX4_best_54 : decode cX4_best 54 = .ok (.aload_n 0, 1) := by decide +kernel
theorem dX4_best_55 : decode cX4_best 55 = .ok (.invokevirtual 131, 3) := by decide +kernel
theorem dX4_best_58 : decode cX4_best 58 = .ok (.invokevirtual 152, 3) := by decide +kernel
theorem dX4_best_61 : decode cX4_best 61 = .ok (.istore 5, 2) := by decide +kernel
theorem dX4_best_63 : decode cX4_best 63 = .ok (.iload 5, 2) := by decide +kernel
theorem dX4_best_65 : decode cX4_best 65 = .ok (.iload_n 3, 1) := by decide +kernel
theorem dX4_best_66 : decode cX4_best 66 = .ok (.if_icmp .ge 8, 3) := by decide +kernel
theorem dX4_best_69 : decode cX4_best 69 = .ok (.iload 4, 2) := by decide +kernel
theorem dX4_best_71 : decode cX4_best 71 = .ok (.goto 4, 3) := by decide +kernel
theorem dX4_best_74 : decode cX4_best 74 = .ok (.iload_n 2, 1) := by decide +kernel
theorem dX4_best_75 : decode cX4_best 75 = .ok (.istore_n 2, 1) := by decide +kernel
theorem dX4_best_76 : decode cX4_best 76 = .ok (.iload 5, 2) := by decide +kernel
theorem dX4_best_78 : decode cX4_best 78 = .ok (.iload_n 3, 1) := by decide +kernel
theorem dX4_best_79 : decode cX4_best 79 = .ok (.if_icmp .ge 8, 3) := by decide +kernel
theorem dX4_best_82 : decode cX4_best 82 = .ok (.iload 5, 2) := by decide +kernel
theorem dX4_best_84 : decode cX4_best 84 = .ok (.goto 4, 3) := by decide +kernel
theorem dX4_best_87 : decode cX4_best 87 = .ok (.iload_n 3, 1) := by decide +kernel
theorem dX4_best_88 : decode cX4_best 88 = .ok (.istore_n 3, 1) := by decide +kernel
theorem dX4_best_89 : decode cX4_best 89 = .ok (.iinc 4 1, 3) := by decide +kernel
theorem dX4_best_92 : decode cX4_best 92 = .ok (.goto (-69), 3) := by decide +kernel
theorem dX4_best_95 : decode cX4_best 95 = .ok (.iload_n 2, 1) := by decide +kernel
theorem dX4_best_96 : decode cX4_best 96 = .ok (.ifCond .ge 12, 3) := by decide +kernel
theorem dX4_best_99 : decode cX4_best 99 = .ok (.aload_n 0, 1) := by decide +kernel
theorem dX4_best_100 : decode cX4_best 100 = .ok (.ldc 158, 2) := by decide +kernel
theorem dX4_best_102 : decode cX4_best 102 = .ok (.invokevirtual 74, 3) := by decide +kernel
theorem dX4_best_105 : decode cX4_best 105 = .ok (.goto 4, 3) := by decide +kernel
theorem dX4_best_108 : decode cX4_best 108 = .ok (.iload_n 2, 1) := by decide +kernel
theorem dX4_best_109 : decode cX4_best 109 = .ok (.ireturn, 1) := by decide +kernel
theorem dX4_findTwo_0 : decode cX4_findTwo 0 = .ok (.iconst (-1), 1) := by decide +kernel
theorem dX4_findTwo_1 : decode cX4_findTwo 1 = .ok (.istore_n 2, 1) := by decide +kernel
theorem dX4_findTwo_2 : decode cX4_findTwo 2 = .ok (.aload_n 0, 1) := by decide +kernel
theorem dX4_findTwo_3 : decode cX4_findTwo 3 = .ok (.bipush 49, 2) := by decide +kernel
theorem dX4_findTwo_5 : decode cX4_findTwo 5 = .ok (.putfield 159, 3) := by decide +kernel
theorem dX4_findTwo_8 : decode cX4_findTwo 8 = .ok (.iconst 0, 1) := by decide +kernel
theorem dX4_findTwo_9 : decode cX4_findTwo 9 = .ok (.istore_n 3, 1) := by decide +kernel
theorem dX4_findTwo_10 : decode cX4_findTwo 10 = .ok (.iload_n 3, 1) := by decide +kernel
theorem dX4_findTwo_11 : decode cX4_findTwo 11 = .ok (.bipush 48, 2) := by decide +kernel
theorem dX4_findTwo_13 : decode cX4_findTwo 13 = .ok (.if_icmp .ge 126, 3) := by decide +kernel
theorem dX4_findTwo_16 : decode cX4_findTwo 16 = .ok (.aload_n 0, 1) := by decide +kernel
theorem dX4_findTwo_17 : decode cX4_findTwo 17 = .ok (.iload_n 3, 1) := by decide +kernel
theorem dX4_findTwo_18 : decode cX4_findTwo 18 = .ok (.invokevirtual 61, 3) := by decide +kernel
theorem dX4_findTwo_21 : decode cX4_findTwo 21 = .ok (.ifCond .ne 6, 3) := by decide +kernel
theorem dX4_findTwo_24 : decode cX4_findTwo 24 = .ok (.goto 109, 3) := by decide +kernel
theorem dX4_findTwo_27 : decode cX4_findTwo 27 = .ok (.aload_n 0, 1) := by decide +kernel
theorem dX4_findTwo_28 : decode cX4_findTwo 28 = .ok (.invokevirtual 162, 3) := by decide +kernel
theorem dX4_findTwo_31 : decode cX4_findTwo 31 = .ok (.aload_n 0, 1) := by decide +kernel
theorem dX4_findTwo_32 : decode cX4_findTwo 32 = .ok (.iload_n 1, 1) := by decide +kernel
theorem dX4_findTwo_33 : decode cX4_findTwo 33 = .ok (.iload_n 3, 1) := by decide +kernel
theorem dX4_findTwo_34 : decode cX4_findTwo 34 = .ok (.invokevirtual 124, 3) := by decide +kernel
theorem dX4_findTwo_37 : decode cX4_findTwo 37 = .ok (.iconst 0, 1) := by decide +kernel
theorem dX4_findTwo_38 : decode cX4_findTwo 38 = .ok (.istore 4, 2) := by decide +kernel
theorem dX4_findTwo_40 : decode cX4_findTwo 40 = .ok (.iload 4, 2) := by decide +kernel
theorem dX4_findTwo_42 : decode cX4_findTwo 42 = .ok (.bipush 48, 2) := by decide +kernel
theorem dX4_findTwo_44 : decode cX4_findTwo 44 = .ok (.if_icmp .ge 85, 3) := by decide +kernel
theorem dX4_findTwo_47 : decode cX4_findTwo 47 = .ok (.aload_n 0, 1) := by decide +kernel
theorem dX4_findTwo_48 : decode cX4_findTwo 48 = .ok (.iload 4, 2) := by decide +kernel
theorem dX4_findTwo_50 : decode cX4_findTwo 50 = .ok (.invokevirtual 61, 3) := by decide +kernel
theorem dX4_findTwo_53 : decode cX4_findTwo 53 = .ok (.ifCond .ne 6, 3) := by decide +kernel
theorem dX4_findTwo_56 : decode cX4_findTwo 56 = .ok (.goto 67, 3) := by decide +kernel
theorem dX4_findTwo_59 : decode cX4_findTwo 59 = .ok (.aload_n 0, 1) := by decide +kernel
theorem dX4_findTwo_60 : decode cX4_findTwo 60 = .ok (.invokevirtual 149, 3) := by decide +kernel
theorem dX4_findTwo_63 : decode cX4_findTwo 63 = .ok (.aload_n 0, 1) := by decide +kernel
theorem dX4_findTwo_64 : decode cX4_findTwo 64 = .ok (.iload_n 1, 1) := by decide +kernel
theorem dX4_findTwo_65 : decode cX4_findTwo 65 = .ok (.iload 4, 2) := by decide +kernel
theorem dX4_findTwo_67 : decode cX4_findTwo 67 = .ok (.invokevirtual 124, 3) := by decide +kernel
theorem dX4_findTwo_70 : decode cX4_findTwo 70 = .ok (.aload_n 0, 1) := by decide +kernel
theorem dX4_findTwo_71 : decode cX4_findTwo 71 = .ok (.aload_n 0, 1) := by decide +kernel
theorem dX4_findTwo_72 : decode cX4_findTwo 72 = .ok (.invokevirtual 131, 3) := by decide +kernel
theorem dX4_findTwo_75 : decode cX4_findTwo 75 = .ok (.invokevirtual 152, 3) := by decide +kernel
theorem dX4_findTwo_78 : decode cX4_findTwo 78 = .ok (.istore 5, 2) := by decide +kernel
theorem dX4_findTwo_80 : decode cX4_findTwo 80 = .ok (.iload 5, 2) := by decide +kernel
theorem dX4_findTwo_82 : decode cX4_findTwo 82 = .ok (.aload_n 0, 1) := by decide +kernel
theorem dX4_findTwo_83 : decode cX4_findTwo 83 = .ok (.getfield 159, 3) := by decide +kernel
theorem dX4_findTwo_86 : decode cX4_findTwo 86 = .ok (.if_icmp .ge 13, 3) := by decide +kernel
theorem dX4_findTwo_89 : decode cX4_findTwo 89 = .ok (.bipush 100, 2) := by decide +kernel
theorem dX4_findTwo_91 : decode cX4_findTwo 91 = .ok (.iload_n 3, 1) := by decide +kernel
theorem dX4_findTwo_92 : decode cX4_findTwo 92 = .ok (.imul, 1) := by decide +kernel
theorem dX4_findTwo_93 : decode cX4_findTwo 93 = .ok (.iload 4, 2) := by decide +kernel
theorem dX4_findTwo_95 : decode cX4_findTwo 95 = .ok (.iadd, 1) := by decide +kernel
theorem dX4_findTwo_96 : decode cX4_findTwo 96 = .ok (.goto 4, 3) := by decide +kernel
theorem dX4_findTwo_99 : decode cX4_findTwo 99 = .ok (.iload_n 2, 1) := by decide +kernel
theorem dX4_findTwo_100 : decode cX4_findTwo 100 = .ok (.istore_n 2, 1) := by decide +kernel
theorem dX4_findTwo_101 : decode cX4_findTwo 101 = .ok (.aload_n 0, 1) := by decide +kernel
theorem dX4_findTwo_102 : decode cX4_findTwo 102 = .ok (.iload 5, 2) := by decide +kernel
theorem dX4_findTwo_104 : decode cX4_findTwo 104 = .ok (.aload_n 0, 1) := by decide +kernel
theorem dX4_findTwo_105 : decode cX4_findTwo 105 = .ok (.getfield 159, 3) := by decide +kernel
theorem dX4_findTwo_108 : decode cX4_findTwo 108 = .ok (.if_icmp .ge 8, 3) := by decide +kernel
theorem dX4_findTwo_111 : decode cX4_findTwo 111 = .ok (.iload 5, 2) := by decide +kernel
theorem dX4_findTwo_113 : decode cX4_findTwo 113 = .ok (.goto 7, 3) := by decide +kernel
theorem dX4_findTwo_116 : decode cX4_findTwo 116 = .ok (.aload_n 0, 1) := by decide +kernel
theorem dX4_findTwo_117 : decode cX4_findTwo 117 = .ok (.getfield 159, 3) := by decide +kernel
theorem dX4_findTwo_120 : decode cX4_findTwo 120 = .ok (.putfield 159, 3) := by decide +kernel
theorem dX4_findTwo_123 : decode cX4_findTwo 123 = .ok (.iinc 4 1, 3) := by decide +kernel
theorem dX4_findTwo_126 : decode cX4_findTwo 126 = .ok (.goto (-86), 3) := by decide +kernel
theorem dX4_findTwo_129 : decode cX4_findTwo 129 = .ok (.aload_n 0, 1) := by decide +kernel
theorem dX4_findTwo_130 : decode cX4_findTwo 130 = .ok (.invokevirtual 165, 3) := by decide +kernel
theorem dX4_findTwo_133 : decode cX4_findTwo 133 = .ok (.iinc 3 1, 3) := by decide +kernel
theorem dX4_findTwo_136 : decode cX4_findTwo 136 = .ok (.goto (-126), 3) := by decide +kernel
theorem dX4_findTwo_139 : decode cX4_findTwo 139 = .ok (.iload_n 2, 1) := by decide +kernel
theorem dX4_findTwo_140 : decode cX4_findTwo 140 = .ok (.ireturn, 1) := by decide +kernel
theorem dX4_two_0 : decode cX4_two 0 = .ok (.aload_n 0, 1) := by decide +kernel
theorem dX4_two_1 : decode cX4_two 1 = .ok (.iload_n 1, 1) := by decide +kernel
theorem dX4_two_2 : decode cX4_two 2 = .ok (.invokevirtual 109, 3) := by decide +kernel
theorem dX4_two_5 : decode cX4_two 5 = .ok (.ifCond .ne 10, 3) := by decide +kernel
theorem dX4_two_8 : decode cX4_two 8 = .ok (.aload_n 0, 1) := by decide +kernel
theorem dX4_two_9 : decode cX4_two 9 = .ok (.ldc 48, 2) := by decide +kernel
theorem dX4_two_11 : decode cX4_two 11 = .ok (.invokevirtual 74, 3) := by decide +kernel
theorem dX4_two_14 : decode cX4_two 14 = .ok (.ireturn, 1) := by decide +kernel
theorem dX4_two_15 : decode cX4_two 15 = .ok (.aload_n 0, 1) := by decide +kernel
theorem dX4_two_16 : decode cX4_two 16 = .ok (.iload_n 1, 1) := by decide +kernel
theorem dX4_two_17 : decode cX4_two 17 = .ok (.invokevirtual 168, 3) := by decide +kernel
theorem dX4_two_20 : decode cX4_two 20 = .ok (.istore_n 2, 1) := by decide +kernel
theorem dX4_two_21 : decode cX4_two 21 = .ok (.iload_n 2, 1) := by decide +kernel
theorem dX4_two_22 : decode cX4_two 22 = .ok (.ifCond .ge 12, 3) := by decide +kernel
theorem dX4_two_25 : decode cX4_two 25 = .ok (.aload_n 0, 1) := by decide +kernel
theorem dX4_two_26 : decode cX4_two 26 = .ok (.ldc 158, 2) := by decide +kernel
theorem dX4_two_28 : decode cX4_two 28 = .ok (.invokevirtual 74, 3) := by decide +kernel
theorem dX4_two_31 : decode cX4_two 31 = .ok (.goto 4, 3) := by decide +kernel
theorem dX4_two_34 : decode cX4_two 34 = .ok (.iload_n 2, 1) := by decide +kernel
theorem dX4_two_35 : decode cX4_two 35 = .ok (.ireturn, 1) := by decide +kernel
theorem dX4_left_0 : decode cX4_left 0 = .ok (.aload_n 0, 1) := by decide +kernel
theorem dX4_left_1 : decode cX4_left 1 = .ok (.iload_n 1, 1) := by decide +kernel
theorem dX4_left_2 : decode cX4_left 2 = .ok (.invokevirtual 109, 3) := by decide +kernel
theorem dX4_left_5 : decode cX4_left 5 = .ok (.ifCond .ne 10, 3) := by decide +kernel
theorem dX4_left_8 : decode cX4_left 8 = .ok (.aload_n 0, 1) := by decide +kernel
theorem dX4_left_9 : decode cX4_left 9 = .ok (.ldc 48, 2) := by decide +kernel
theorem dX4_left_11 : decode cX4_left 11 = .ok (.invokevirtual 74, 3) := by decide +kernel
theorem dX4_left_14 : decode cX4_left 14 = .ok (.ireturn, 1) := by decide +kernel
theorem dX4_left_15 : decode cX4_left 15 = .ok (.aload_n 0, 1) := by decide +kernel
theorem dX4_left_16 : decode cX4_left 16 = .ok (.iload_n 1, 1) := by decide +kernel
theorem dX4_left_17 : decode cX4_left 17 = .ok (.invokevirtual 168, 3) := by decide +kernel
theorem dX4_left_20 : decode cX4_left 20 = .ok (.ifCond .ge 12, 3) := by decide +kernel
theorem dX4_left_23 : decode cX4_left 23 = .ok (.aload_n 0, 1) := by decide +kernel
theorem dX4_left_24 : decode cX4_left 24 = .ok (.ldc 158, 2) := by decide +kernel
theorem dX4_left_26 : decode cX4_left 26 = .ok (.invokevirtual 74, 3) := by decide +kernel
theorem dX4_left_29 : decode cX4_left 29 = .ok (.goto 7, 3) := by decide +kernel
theorem dX4_left_32 : decode cX4_left 32 = .ok (.aload_n 0, 1) := by decide +kernel
theorem dX4_left_33 : decode cX4_left 33 = .ok (.getfield 159, 3) := by decide +kernel
theorem dX4_left_36 : decode cX4_left 36 = .ok (.ireturn, 1) := by decide +kernel
theorem dX4_kind_0 : decode cX4_kind 0 = .ok (.aload_n 0, 1) := by decide +kernel
theorem dX4_kind_1 : decode cX4_kind 1 = .ok (.iload_n 1, 1) := by decide +kernel
theorem dX4_kind_2 : decode cX4_kind 2 = .ok (.invokevirtual 109, 3) := by decide +kernel
theorem dX4_kind_5 : decode cX4_kind 5 = .ok (.ifCond .eq 15, 3) := by decide +kernel
theorem dX4_kind_8 : decode cX4_kind 8 = .ok (.iload_n 2, 1) := by decide +kernel
theorem dX4_kind_9 : decode cX4_kind 9 = .ok (.i2l, 1) := by decide +kernel
theorem dX4_kind_10 : decode cX4_kind 10 = .ok (.lconst 0, 1) := by decide +kernel
theorem dX4_kind_11 : decode cX4_kind 11 = .ok (.ldc2_w 138, 3) := by decide +kernel
theorem dX4_kind_14 : decode cX4_kind 14 = .ok (.invokestatic 51, 3) := by decide +kernel
theorem dX4_kind_17 : decode cX4_kind 17 = .ok (.ifCond .ne 10, 3) := by decide +kernel
theorem dX4_kind_20 : decode cX4_kind 20 = .ok (.aload_n 0, 1) := by decide +kernel
theorem dX4_kind_21 : decode cX4_kind 21 = .ok (.ldc 48, 2) := by decide +kernel
theorem dX4_kind_23 : decode cX4_kind 23 = .ok (.invokevirtual 74, 3) := by decide +kernel
theorem dX4_kind_26 : decode cX4_kind 26 = .ok (.ireturn, 1) := by decide +kernel
theorem dX4_kind_27 : decode cX4_kind 27 = .ok (.aload_n 0, 1) := by decide +kernel
theorem dX4_kind_28 : decode cX4_kind 28 = .ok (.iload_n 1, 1) := by decide +kernel
theorem dX4_kind_29 : decode cX4_kind 29 = .ok (.iconst 0, 1) := by decide +kernel
theorem dX4_kind_30 : decode cX4_kind 30 = .ok (.invokevirtual 86, 3) := by decide +kernel
theorem dX4_kind_33 : decode cX4_kind 33 = .ok (.istore_n 3, 1) := by decide +kernel
theorem dX4_kind_34 : decode cX4_kind 34 = .ok (.iconst 0, 1) := by decide +kernel
theorem dX4_kind_35 : decode cX4_kind 35 = .ok (.istore 4, 2) := by decide +kernel
theorem dX4_kind_37 : decode cX4_kind 37 = .ok (.bipush 49, 2) := by decide +kernel
theorem dX4_kind_39 : decode cX4_kind 39 = .ok (.istore 5, 2) := by decide +kernel
theorem dX4_kind_41 : decode cX4_kind 41 = .ok (.iconst 0, 1) := by decide +kernel
theorem dX4_kind_42 : decode cX4_kind 42 = .ok (.istore 6, 2) := by decide +kernel
theorem dX4_kind_44 : decode cX4_kind 44 = .ok (.iload 6, 2) := by decide +kernel
theorem dX4_kind_46 : decode cX4_kind 46 = .ok (.iconst 5, 1) := by decide +kernel
theorem dX4_kind_47 : decode cX4_kind 47 = .ok (.if_icmp .gt 60, 3) := by decide +kernel
theorem dX4_kind_50 : decode cX4_kind 50 = .ok (.aload_n 0, 1) := by decide +kernel
theorem dX4_kind_51 : decode cX4_kind 51 = .ok (.getfield 7, 3) := by decide +kernel
theorem dX4_kind_54 : decode cX4_kind 54 = .ok (.iload_n 1, 1) := by decide +kernel
theorem dX4_kind_55 : decode cX4_kind 55 = .ok (.iconst 0, 1) := by decide +kernel
theorem dX4_kind_56 : decode cX4_kind 56 = .ok (.invokestatic 57, 3) := by decide +kernel
theorem dX4_kind_59 : decode cX4_kind 59 = .ok (.iload 6, 2) := by decide +kernel
theorem dX4_kind_61 : decode cX4_kind 61 = .ok (.iastore, 1) := by decide +kernel
theorem dX4_kind_62 : decode cX4_kind 62 = .ok (.aload_n 0, 1) := by decide +kernel
theorem dX4_kind_63 : decode cX4_kind 63 = .ok (.iload_n 2, 1) := by decide +kernel
theorem dX4_kind_64 : decode cX4_kind 64 = .ok (.invokevirtual 155, 3) := by decide +kernel
theorem dX4_kind_67 : decode cX4_kind 67 = .ok (.istore 7, 2) := by decide +kernel
theorem dX4_kind_69 : decode cX4_kind 69 = .ok (.iload 7, 2) := by decide +kernel
theorem dX4_kind_71 : decode cX4_kind 71 = .ok (.iload 5, 2) := by decide +kernel
theorem dX4_kind_73 : decode cX4_kind 73 = .ok (.if_icmp .ge 8, 3) := by decide +kernel
theorem dX4_kind_76 : decode cX4_kind 76 = .ok (.iload 6, 2) := by decide +kernel
theorem dX4_kind_78 : decode cX4_kind 78 = .ok (.goto 5, 3) := by decide +kernel
theorem dX4_kind_81 : decode cX4_kind 81 = .ok (.iload 4, 2) := by decide +kernel
theorem dX4_kind_83 : decode cX4_kind 83 = .ok (.istore 4, 2) := by decide +kernel
theorem dX4_kind_85 : decode cX4_kind 85 = .ok (.iload 7, 2) := by decide +kernel
theorem dX4_kind_87 : decode cX4_kind 87 = .ok (.iload 5, 2) := by decide +kernel
theorem dX4_kind_89 : decode cX4_kind 89 = .ok (.if_icmp .ge 8, 3) := by decide +kernel
theorem dX4_kind_92 : decode cX4_kind 92 = .ok (.iload 7, 2) := by decide +kernel
theorem dX4_kind_94 : decode cX4_kind 94 = .ok (.goto 5, 3) := by decide +kernel
theorem dX4_kind_97 : decode cX4_kind 97 = .ok (.iload 5, 2) := by decide +kernel
theorem dX4_kind_99 : decode cX4_kind 99 = .ok (.istore 5, 2) := by decide +kernel
theorem dX4_kind_101 : decode cX4_kind 101 = .ok (.iinc 6 1, 3) := by decide +kernel
theorem dX4_kind_104 : decode cX4_kind 104 = .ok (.goto (-60), 3) := by decide +kernel
theorem dX4_kind_107 : decode cX4_kind 107 = .ok (.aload_n 0, 1) := by decide +kernel
theorem dX4_kind_108 : decode cX4_kind 108 = .ok (.getfield 7, 3) := by decide +kernel
theorem dX4_kind_111 : decode cX4_kind 111 = .ok (.iload_n 1, 1) := by decide +kernel
theorem dX4_kind_112 : decode cX4_kind 112 = .ok (.iconst 0, 1) := by decide +kernel
theorem dX4_kind_113 : decode cX4_kind 113 = .ok (.invokestatic 57, 3) := by decide +kernel
theorem dX4_kind_116 : decode cX4_kind 116 = .ok (.iload_n 3, 1) := by decide +kernel
theorem dX4_kind_117 : decode cX4_kind 117 = .ok (.iastore, 1) := by decide +kernel
theorem dX4_kind_118 : decode cX4_kind 118 = .ok (.iload 4, 2) := by decide +kernel
theorem dX4_kind_120 : decode cX4_kind 120 = .ok (.ireturn, 1) := by decide +kernel
theorem dX4_purse_0 : decode cX4_purse 0 = .ok (.aload_n 0, 1) := by decide +kernel
theorem dX4_purse_1 : decode cX4_purse 1 = .ok (.iload_n 1, 1) := by decide +kernel
theorem dX4_purse_2 : decode cX4_purse 2 = .ok (.invokevirtual 109, 3) := by decide +kernel
theorem dX4_purse_5 : decode cX4_purse 5 = .ok (.ifCond .eq 15, 3) := by decide +kernel
theorem dX4_purse_8 : decode cX4_purse 8 = .ok (.iload_n 2, 1) := by decide +kernel
theorem dX4_purse_9 : decode cX4_purse 9 = .ok (.i2l, 1) := by decide +kernel
theorem dX4_purse_10 : decode cX4_purse 10 = .ok (.lconst 0, 1) := by decide +kernel
theorem dX4_purse_11 : decode cX4_purse 11 = .ok (.ldc2_w 91, 3) := by decide +kernel
theorem dX4_purse_14 : decode cX4_purse 14 = .ok (.invokestatic 51, 3) := by decide +kernel
theorem dX4_purse_17 : decode cX4_purse 17 = .ok (.ifCond .ne 10, 3) := by decide +kernel
theorem dX4_purse_20 : decode cX4_purse 20 = .ok (.aload_n 0, 1) := by decide +kernel
theorem dX4_purse_21 : decode cX4_purse 21 = .ok (.ldc 48, 2) := by decide +kernel
theorem dX4_purse_23 : decode cX4_purse 23 = .ok (.invokevirtual 74, 3) := by decide +kernel
theorem dX4_purse_26 : decode cX4_purse 26 = .ok (.ireturn, 1) := by decide +kernel
theorem dX4_purse_27 : decode cX4_purse 27 = .ok (.aload_n 0, 1) := by decide +kernel
theorem dX4_purse_28 : decode cX4_purse 28 = .ok (.iload_n 1, 1) := by decide +kernel
theorem dX4_purse_29 : decode cX4_purse 29 = .ok (.iconst 2, 1) := by decide +kernel
theorem dX4_purse_30 : decode cX4_purse 30 = .ok (.invokevirtual 86, 3) := by decide +kernel
theorem dX4_purse_33 : decode cX4_purse 33 = .ok (.istore_n 3, 1) := by decide +kernel
theorem dX4_purse_34 : decode cX4_purse 34 = .ok (.aload_n 0, 1) := by decide +kernel
theorem dX4_purse_35 : decode cX4_purse 35 = .ok (.getfield 7, 3) := by decide +kernel
theorem dX4_purse_38 : decode cX4_purse 38 = .ok (.iload_n 1, 1) := by decide +kernel
theorem dX4_purse_39 : decode cX4_purse 39 = .ok (.iconst 2, 1) := by decide +kernel
theorem dX4_purse_40 : decode cX4_purse 40 = .ok (.invokestatic 57, 3) := by decide +kernel
theorem dX4_purse_43 : decode cX4_purse 43 = .ok (.sipush 255, 3) := by decide +kernel
theorem dX4_purse_46 : decode cX4_purse 46 = .ok (.iastore, 1) := by decide +kernel
theorem dX4_purse_47 : decode cX4_purse 47 = .ok (.aload_n 0, 1) := by decide +kernel
theorem dX4_purse_48 : decode cX4_purse 48 = .ok (.iload_n 2, 1) := by decide +kernel
theorem dX4_purse_49 : decode cX4_purse 49 = .ok (.invokevirtual 155, 3) := by decide +kernel
theorem dX4_purse_52 : decode cX4_purse 52 = .ok (.istore 4, 2) := by decide +kernel
theorem dX4_purse_54 : decode cX4_purse 54 = .ok (.iconst 0, 1) := by decide +kernel
theorem dX4_purse_55 : decode cX4_purse 55 = .ok (.istore 5, 2) := by decide +kernel
theorem dX4_purse_57 : decode cX4_purse 57 = .ok (.aload_n 0, 1) := by decide +kernel
theorem dX4_purse_58 : decode cX4_purse 58 = .ok (.getfield 7, 3) := by decide +kernel
theorem dX4_purse_61 : decode cX4_purse 61 = .ok (.iload_n 1, 1) := by decide +kernel
theorem dX4_purse_62 : decode cX4_purse 62 = .ok (.iconst 2, 1) := by decide +kernel
theorem dX4_purse_63 : decode cX4_purse 63 = .ok (.invokestatic 57, 3) := by decide +kernel
theorem dX4_purse_66 : decode cX4_purse 66 = .ok (.iconst 0, 1) := by decide +kernel
theorem dX4_purse_67 : decode cX4_purse 67 = .ok (.iastore, 1) := by decide +kernel
theorem dX4_purse_68 : decode cX4_purse 68 = .ok (.aload_n 0, 1) := by decide +kernel
theorem dX4_purse_69 : decode cX4_purse 69 = .ok (.iload_n 2, 1) := by decide +kernel
theorem dX4_purse_70 : decode cX4_purse 70 = .ok (.invokevirtual 155, 3) := by decide +kernel
theorem dX4_purse_73 : decode cX4_purse 73 = .ok (.iload 4, 2) := by decide +kernel
theorem dX4_purse_75 : decode cX4_purse 75 = .ok (.if_icmp .le 21, 3) := by decide +kernel
theorem dX4_purse_78 : decode cX4_purse 78 = .ok (.iinc 5 1, 3) := by decide +kernel
theorem dX4_purse_81 : decode cX4_purse 81 = .ok (.aload_n 0, 1) := by decide +kernel
theorem dX4_purse_82 : decode cX4_purse 82 = .ok (.getfield 7, 3) := by decide +kernel
theorem dX4_purse_85 : decode cX4_purse 85 = .ok (.iload_n 1, 1) := by decide +kernel
theorem dX4_purse_86 : decode cX4_purse 86 = .ok (.iconst 2, 1) := by decide +kernel
theorem dX4_purse_87 : decode cX4_purse 87 = .ok (.invokestatic 57, 3) := by decide +kernel
theorem dX4_purse_90 : decode cX4_purse 90 = .ok (.iload 5, 2) := by decide +kernel
theorem dX4_purse_92 : decode cX4_purse 92 = .ok (.iastore, 1) := by decide +kernel
theorem dX4_purse_93 : decode cX4_purse 93 = .ok (.goto (-25), 3) := by decide +kernel
theorem dX4_purse_96 : decode cX4_purse 96 = .ok (.aload_n 0, 1) := by decide +kernel
theorem dX4_purse_97 : decode cX4_purse 97 = .ok (.getfield 7, 3) := by decide +kernel
theorem dX4_purse_100 : decode cX4_purse 100 = .ok (.iload_n 1, 1) := by decide +kernel
theorem dX4_purse_101 : decode cX4_purse 101 = .ok (.iconst 2, 1) := by decide +kernel
theorem dX4_purse_102 : decode cX4_purse 102 = .ok (.invokestatic 57, 3) := by decide +kernel
theorem dX4_purse_105 : decode cX4_purse 105 = .ok (.iload_n 3, 1) := by decide +kernel
theorem dX4_purse_106 : decode cX4_purse 106 = .ok (.iastore, 1) := by decide +kernel
theorem dX4_purse_107 : decode cX4_purse 107 = .ok (.iload 5, 2) := by decide +kernel
theorem dX4_purse_109 : decode cX4_purse 109 = .ok (.ireturn, 1) := by decide +kernel
theorem dX4_needed_0 : decode cX4_needed 0 = .ok (.iload_n 1, 1) := by decide +kernel
theorem dX4_needed_1 : decode cX4_needed 1 = .ok (.i2l, 1) := by decide +kernel
theorem dX4_needed_2 : decode cX4_needed 2 = .ok (.lconst 0, 1) := by decide +kernel
theorem dX4_needed_3 : decode cX4_needed 3 = .ok (.ldc2_w 138, 3) := by decide +kernel
theorem dX4_needed_6 : decode cX4_needed 6 = .ok (.invokestatic 51, 3) := by decide +kernel
theorem dX4_needed_9 : decode cX4_needed 9 = .ok (.ifCond .ne 10, 3) := by decide +kernel
theorem dX4_needed_12 : decode cX4_needed 12 = .ok (.aload_n 0, 1) := by decide +kernel
theorem dX4_needed_13 : decode cX4_needed 13 = .ok (.ldc 48, 2) := by decide +kernel
theorem dX4_needed_15 : decode cX4_needed 15 = .ok (.invokevirtual 74, 3) := by decide +kernel
theorem dX4_needed_18 : decode cX4_needed 18 = .ok (.ireturn, 1) := by decide +kernel
theorem dX4_needed_19 : decode cX4_needed 19 = .ok (.iconst (-1), 1) := by decide +kernel
theorem dX4_needed_20 : decode cX4_needed 20 = .ok (.istore_n 2, 1) := by decide +kernel
theorem dX4_needed_21 : decode cX4_needed 21 = .ok (.iconst (-1), 1) := by decide +kernel
theorem dX4_needed_22 : decode cX4_needed 22 = .ok (.istore_n 3, 1) := by decide +kernel
theorem dX4_needed_23 : decode cX4_needed 23 = .ok (.aload_n 0, 1) := by decide +kernel
theorem dX4_needed_24 : decode cX4_needed 24 = .ok (.iconst 0, 1) := by decide +kernel
theorem dX4_needed_25 : decode cX4_needed 25 = .ok (.putfield 25, 3) := by decide +kernel
theorem dX4_needed_28 : decode cX4_needed 28 = .ok (.aload_n 0, 1) := by decide +kernel
theorem dX4_needed_29 : decode cX4_needed 29 = .ok (.getfield 25, 3) := by decide +kernel
theorem dX4_needed_32 : decode cX4_needed 32 = .ok (.aload_n 0, 1) := by decide +kernel
theorem dX4_needed_33 : decode cX4_needed 33 = .ok (.getfield 7, 3) := by decide +kernel
theorem dX4_needed_36 : decode cX4_needed 36 = .ok (.iconst 0, 1) := by decide +kernel
theorem dX4_needed_37 : decode cX4_needed 37 = .ok (.iaload, 1) := by decide +kernel
theorem dX4_needed_38 : decode cX4_needed 38 = .ok (.if_icmp .ge 51, 3) := by decide +kernel
theorem dX4_needed_41 : decode cX4_needed 41 = .ok (.aload_n 0, 1) := by decide +kernel
theorem dX4_needed_42 : decode cX4_needed 42 = .ok (.iload_n 1, 1) := by decide +kernel
theorem dX4_needed_43 : decode cX4_needed 43 = .ok (.invokevirtual 155, 3) := by decide +kernel
theorem dX4_needed_46 : decode cX4_needed 46 = .ok (.istore 4, 2) := by decide +kernel
theorem dX4_needed_48 : decode cX4_needed 48 = .ok (.iload 4, 2) := by decide +kernel
theorem dX4_needed_50 : decode cX4_needed 50 = .ok (.iload_n 3, 1) := by decide +kernel
theorem dX4_needed_51 : decode cX4_needed 51 = .ok (.if_icmp .le 10, 3) := by decide +kernel
theorem dX4_needed_54 : decode cX4_needed 54 = .ok (.aload_n 0, 1) := by decide +kernel
theorem dX4_needed_55 : decode cX4_needed 55 = .ok (.getfield 25, 3) := by decide +kernel
theorem dX4_needed_58 : decode cX4_needed 58 = .ok (.goto 4, 3) := by decide +kernel
theorem dX4_needed_61 : decode cX4_needed 61 = .ok (.iload_n 2, 1) := by decide +kernel
theorem dX4_needed_62 : decode cX4_needed 62 = .ok (.istore_n 2, 1) := by decide +kernel
theorem dX4_needed_63 : decode cX4_needed 63 = .ok (.iload 4, 2) := by decide +kernel
theorem dX4_needed_65 : decode cX4_needed 65 = .ok (.iload_n 3, 1) := by decide +kernel
theorem dX4_needed_66 : decode cX4_needed 66 = .ok (.if_icmp .le 8, 3) := by decide +kernel
theorem dX4_needed_69 : decode cX4_needed 69 = .ok (.iload 4, 2) := by decide +kernel
theorem dX4_needed_71 : decode cX4_needed 71 = .ok (.goto 4, 3) := by decide +kernel
theorem dX4_needed_74 : decode cX4_needed 74 = .ok (.iload_n 3, 1) := by decide +kernel
theorem dX4_needed_75 : decode cX4_needed 75 = .ok (.istore_n 3, 1) := by decide +kernel
theorem dX4_needed_76 : decode cX4_needed 76 = .ok (.aload_n 0, 1) := by decide +kernel
theorem dX4_needed_77 : decode cX4_needed 77 = .ok (.dup, 1) := by decide +kernel
theorem dX4_needed_78 : decode cX4_needed 78 = .ok (.getfield 25, 3) := by decide +kernel
theorem dX4_needed_81 : decode cX4_needed 81 = .ok (.iconst 1, 1) := by decide +kernel
theorem dX4_needed_82 : decode cX4_needed 82 = .ok (.iadd, 1) := by decide +kernel
theorem dX4_needed_83 : decode cX4_needed 83 = .ok (.putfield 25, 3) := by decide +kernel
theorem dX4_needed_86 : decode cX4_needed 86 = .ok (.goto (-58), 3) := by decide +kernel
theorem dX4_needed_89 : decode cX4_needed 89 = .ok (.aload_n 0, 1) := by decide +kernel
theorem dX4_needed_90 : decode cX4_needed 90 = .ok (.iconst (-1), 1) := by decide +kernel
theorem dX4_needed_91 : decode cX4_needed 91 = .ok (.putfield 25, 3) := by decide +kernel
theorem dX4_needed_94 : decode cX4_needed 94 = .ok (.iload_n 2, 1) := by decide +kernel
theorem dX4_needed_95 : decode cX4_needed 95 = .ok (.ifCond .ge 12, 3) := by decide +kernel
theorem dX4_needed_98 : decode cX4_needed 98 = .ok (.aload_n 0, 1) := by decide +kernel
theorem dX4_needed_99 : decode cX4_needed 99 = .ok (.ldc 158, 2) := by decide +kernel
theorem dX4_needed_101 : decode cX4_needed 101 = .ok (.invokevirtual 74, 3) := by decide +kernel
theorem dX4_needed_104 : decode cX4_needed 104 = .ok (.goto 4, 3) := by decide +kernel
theorem dX4_needed_107 : decode cX4_needed 107 = .ok (.iload_n 2, 1) := by decide +kernel
theorem dX4_needed_108 : decode cX4_needed 108 = .ok (.ireturn, 1) := by decide +kernel
theorem dX4_isOpen_0 : decode cX4_isOpen 0 = .ok (.aload_n 0, 1) := by decide +kernel
theorem dX4_isOpen_1 : decode cX4_isOpen 1 = .ok (.getfield 7, 3) := by decide +kernel
theorem dX4_isOpen_4 : decode cX4_isOpen 4 = .ok (.iconst 3, 1) := by decide +kernel
theorem dX4_isOpen_5 : decode cX4_isOpen 5 = .ok (.iload_n 1, 1) := by decide +kernel
theorem dX4_isOpen_6 : decode cX4_isOpen 6 = .ok (.iadd, 1) := by decide +kernel
theorem dX4_isOpen_7 : decode cX4_isOpen 7 = .ok (.iaload, 1) := by decide +kernel
theorem dX4_isOpen_8 : decode cX4_isOpen 8 = .ok (.istore_n 3, 1) := by decide +kernel
theorem dX4_isOpen_9 : decode cX4_isOpen 9 = .ok (.iload_n 2, 1) := by decide +kernel
theorem dX4_isOpen_10 : decode cX4_isOpen 10 = .ok (.ifCond .ne 16, 3) := by decide +kernel
theorem dX4_isOpen_13 : decode cX4_isOpen 13 = .ok (.iload_n 3, 1) := by decide +kernel
theorem dX4_isOpen_14 : decode cX4_isOpen 14 = .ok (.iconst 1, 1) := by decide +kernel
theorem dX4_isOpen_15 : decode cX4_isOpen 15 = .ok (.if_icmp .eq 7, 3) := by decide +kernel
theorem dX4_isOpen_18 : decode cX4_isOpen 18 = .ok (.iconst 1, 1) := by decide +kernel
theorem dX4_isOpen_19 : decode cX4_isOpen 19 = .ok (.goto 22, 3) := by decide +kernel
theorem dX4_isOpen_22 : decode cX4_isOpen 22 = .ok (.iconst 0, 1) := by decide +kernel
theorem dX4_isOpen_23 : decode cX4_isOpen 23 = .ok (.goto 18, 3) := by decide +kernel
theorem dX4_isOpen_26 : decode cX4_isOpen 26 = .ok (.iload_n 3, 1) := by decide +kernel
theorem dX4_isOpen_27 : decode cX4_isOpen 27 = .ok (.iconst 5, 1) := by decide +kernel
theorem dX4_isOpen_28 : decode cX4_isOpen 28 = .ok (.if_icmp .eq 8, 3) := by decide +kernel
theorem dX4_isOpen_31 : decode cX4_isOpen 31 = .ok (.iload_n 3, 1) := by decide +kernel
theorem dX4_isOpen_32 : decode cX4_isOpen 32 = .ok (.iconst 3, 1) := by decide +kernel
theorem dX4_isOpen_33 : decode cX4_isOpen 33 = .ok (.if_icmp .ne 7, 3) := by decide +kernel
theorem dX4_isOpen_36 : decode cX4_isOpen 36 = .ok (.iconst 1, 1) := by decide +kernel
theorem dX4_isOpen_37 : decode cX4_isOpen 37 = .ok (.goto 4, 3) := by decide +kernel
theorem dX4_isOpen_40 : decode cX4_isOpen 40 = .ok (.iconst 0, 1) := by decide +kernel
theorem dX4_isOpen_41 : decode cX4_isOpen 41 = .ok (.ireturn, 1) := by decide +kernel
theorem dX4_way_0 : decode cX4_way 0 = .ok (.iload_n 1, 1) := by decide +kernel
theorem dX4_way_1 : decode cX4_way 1 = .ok (.invokestatic 68, 3) := by decide +kernel
theorem dX4_way_4 : decode cX4_way 4 = .ok (.ifCond .eq 20, 3) := by decide +kernel
theorem dX4_way_7 : decode cX4_way 7 = .ok (.iload_n 2, 1) := by decide +kernel
theorem dX4_way_8 : decode cX4_way 8 = .ok (.invokestatic 68, 3) := by decide +kernel
theorem dX4_way_11 : decode cX4_way 11 = .ok (.ifCond .eq 13, 3) := by decide +kernel
theorem dX4_way_14 : decode cX4_way 14 = .ok (.iload_n 3, 1) := by decide +kernel
theorem dX4_way_15 : decode cX4_way 15 = .ok (.i2l, 1) := by decide +kernel
theorem dX4_way_16 : decode cX4_way 16 = .ok (.lconst 0, 1) := by decide +kernel
theorem dX4_way_17 : decode cX4_way 17 = .ok (.lconst 1, 1) := by decide +kernel
theorem dX4_way_18 : decode cX4_way 18 = .ok (.invokestatic 51, 3) := by decide +kernel
theorem dX4_way_21 : decode cX4_way 21 = .ok (.ifCond .ne 10, 3) := by decide +kernel
theorem dX4_way_24 : decode cX4_way 24 = .ok (.aload_n 0, 1) := by decide +kernel
theorem dX4_way_25 : decode cX4_way 25 = .ok (.ldc 48, 2) := by decide +kernel
theorem dX4_way_27 : decode cX4_way 27 = .ok (.invokevirtual 74, 3) := by decide +kernel
theorem dX4_way_30 : decode cX4_way 30 = .ok (.ireturn, 1) := by decide +kernel
theorem dX4_way_31 : decode cX4_way 31 = .ok (.iconst 0, 1) := by decide +kernel
theorem dX4_way_32 : decode cX4_way 32 = .ok (.istore 4, 2) := by decide +kernel
theorem dX4_way_34 : decode cX4_way 34 = .ok (.iload 4, 2) := by decide +kernel
theorem dX4_way_36 : decode cX4_way 36 = .ok (.bipush 48, 2) := by decide +kernel
theorem dX4_way_38 : decode cX4_way 38 = .ok (.if_icmp .ge 38, 3) := by decide +kernel
theorem dX4_way_41 : decode cX4_way 41 = .ok (.aload_n 0, 1) := by decide +kernel
theorem dX4_way_42 : decode cX4_way 42 = .ok (.getfield 29, 3) := by decide +kernel
theorem dX4_way_45 : decode cX4_way 45 = .ok (.iload 4, 2) := by decide +kernel
theorem dX4_way_47 : decode cX4_way 47 = .ok (.iload 4, 2) := by decide +kernel
theorem dX4_way_49 : decode cX4_way 49 = .ok (.iload_n 1, 1) := by decide +kernel
theorem dX4_way_50 : decode cX4_way 50 = .ok (.if_icmp .ne 17, 3) := by decide +kernel
theorem dX4_way_53 : decode cX4_way 53 = .ok (.aload_n 0, 1) := by decide +kernel
theorem dX4_way_54 : decode cX4_way 54 = .ok (.iload 4, 2) := by decide +kernel
theorem dX4_way_56 : decode cX4_way 56 = .ok (.iload_n 3, 1) := by decide +kernel
theorem dX4_way_57 : decode cX4_way 57 = .ok (.invokevirtual 171, 3) := by decide +kernel
theorem dX4_way_60 : decode cX4_way 60 = .ok (.ifCond .eq 7, 3) := by decide +kernel
theorem dX4_way_63 : decode cX4_way 63 = .ok (.iconst 0, 1) := by decide +kernel
theorem dX4_way_64 : decode cX4_way 64 = .ok (.goto 5, 3) := by decide +kernel
theorem dX4_way_67 : decode cX4_way 67 = .ok (.bipush 48, 2) := by decide +kernel
theorem dX4_way_69 : decode cX4_way 69 = .ok (.iastore, 1) := by decide +kernel
theorem dX4_way_70 : decode cX4_way 70 = .ok (.iinc 4 1, 3) := by decide +kernel
theorem dX4_way_73 : decode cX4_way 73 = .ok (.goto (-39), 3) := by decide +kernel
theorem dX4_way_76 : decode cX4_way 76 = .ok (.iconst 0, 1) := by decide +kernel
theorem dX4_way_77 : decode cX4_way 77 = .ok (.istore 4, 2) := by decide +kernel
theorem dX4_way_79 : decode cX4_way 79 = .ok (.iload 4, 2) := by decide +kernel
theorem dX4_way_81 : decode cX4_way 81 = .ok (.sipush 2304, 3) := by decide +kernel
theorem dX4_way_84 : decode cX4_way 84 = .ok (.if_icmp .ge 100, 3) := by decide +kernel
theorem dX4_way_87 : decode cX4_way 87 = .ok (.iload 4, 2) := by decide +kernel
theorem dX4_way_89 : decode cX4_way 89 = .ok (.bipush 48, 2) := by decide +kernel
theorem dX4_way_91 : decode cX4_way 91 = .ok (.irem, 1) := by decide +kernel
theorem dX4_way_92 : decode cX4_way 92 = .ok (.istore 5, 2) := by decide +kernel
theorem dX4_way_94 : decode cX4_way 94 = .ok (.iconst 0, 1) := by decide +kernel
theorem dX4_way_95 : decode cX4_way 95 = .ok (.istore 6, 2) := by decide +kernel
theorem dX4_way_97 : decode cX4_way 97 = .ok (.iload 6, 2) := by decide +kernel
theorem dX4_way_99 : decode cX4_way 99 = .ok (.iconst 4, 1) := by decide +kernel
theorem dX4_way_100 : decode cX4_way 100 = .ok (.if_icmp .ge 78, 3) := by decide +kernel
theorem dX4_way_103 : decode cX4_way 103 = .ok (.aload_n 0, 1) := by decide +kernel
theorem dX4_way_104 : decode cX4_way 104 = .ok (.iload 5, 2) := by decide +kernel
theorem dX4_way_106 : decode cX4_way 106 = .ok (.iload_n 3, 1) := by decide +kernel
theorem dX4_way_107 : decode cX4_way 107 = .ok (.invokevirtual 171, 3) := by decide +kernel
theorem dX4_way_110 : decode cX4_way 110 = .ok (.ifCond .eq 68, 3) := by decide +kernel
theorem dX4_way_113 : decode cX4_way 113 = .ok (.iload 5, 2) := by decide +kernel
theorem dX4_way_115 : decode cX4_way 115 = .ok (.iload 6, 2) := by decide +kernel
theorem dX4_way_117 : decode cX4_way 117 = .ok (.invokestatic 65, 3) := by decide +kernel
theorem dX4_way_120 : decode cX4_way 120 = .ok (.istore 7, 2) := by decide +kernel
theorem dX4_way_122 : decode cX4_way 122 = .ok (.aload_n 0, 1) := by decide +kernel
theorem dX4_way_123 : decode cX4_way 123 = .ok (.getfield 29, 3) := by decide +kernel
theorem dX4_way_126 : decode cX4_way 126 = .ok (.iload 5, 2) := by decide +kernel
theorem dX4_way_128 : decode cX4_way 128 = .ok (.iload 7, 2) := by decide +kernel
theorem dX4_way_130 : decode cX4_way 130 = .ok (.ifCond .lt 34, 3) := by decide +kernel
theorem dX4_way_133 : decode cX4_way 133 = .ok (.aload_n 0, 1) := by decide +kernel
theorem dX4_way_134 : decode cX4_way 134 = .ok (.getfield 29, 3) := by decide +kernel
theorem dX4_way_137 : decode cX4_way 137 = .ok (.iload 7, 2) := by decide +kernel
theorem dX4_way_139 : decode cX4_way 139 = .ok (.iaload, 1) := by decide +kernel
theorem dX4_way_140 : decode cX4_way 140 = .ok (.iconst 1, 1) := by decide +kernel
theorem dX4_way_141 : decode cX4_way 141 = .ok (.iadd, 1) := by decide +kernel
theorem dX4_way_142 : decode cX4_way 142 = .ok (.aload_n 0, 1) := by decide +kernel
theorem dX4_way_143 : decode cX4_way 143 = .ok (.getfield 29, 3) := by decide +kernel
theorem dX4_way_146 : decode cX4_way 146 = .ok (.iload 5, 2) := by decide +kernel
theorem dX4_way_148 : decode cX4_way 148 = .ok (.iaload, 1) := by decide +kernel
theorem dX4_way_149 : decode cX4_way 149 = .ok (.if_icmp .ge 15, 3) := by decide +kernel
theorem dX4_way_152 : decode cX4_way 152 = .ok (.aload_n 0, 1) := by decide +kernel
theorem dX4_way_153 : decode cX4_way 153 = .ok (.getfield 29, 3) := by decide +kernel
theorem dX4_way_156 : decode cX4_way 156 = .ok (.iload 7, 2) := by decide +kernel
theorem dX4_way_158 : decode cX4_way 158 = .ok (.iaload, 1) := by decide +kernel
theorem dX4_way_159 : decode cX4_way 159 = .ok (.iconst 1, 1) := by decide +kernel
theorem dX4_way_160 : decode cX4_way 160 = .ok (.iadd, 1) := by decide +kernel
theorem dX4_way_161 : decode cX4_way 161 = .ok (.goto 10, 3) := by decide +kernel
theorem dX4_way_164 : decode cX4_way 164 = .ok (.aload_n 0, 1) := by decide +kernel
theorem dX4_way_165 : decode cX4_way 165 = .ok (.getfield 29, 3) := by decide +kernel
theorem dX4_way_168 : decode cX4_way 168 = .ok (.iload 5, 2) := by decide +kernel
theorem dX4_way_170 : decode cX4_way 170 = .ok (.iaload, 1) := by decide +kernel
theorem dX4_way_171 : decode cX4_way 171 = .ok (.iastore, 1) := by decide +kernel
theorem dX4_way_172 : decode cX4_way 172 = .ok (.iinc 6 1, 3) := by decide +kernel
theorem dX4_way_175 : decode cX4_way 175 = .ok (.goto (-78), 3) := by decide +kernel
theorem dX4_way_178 : decode cX4_way 178 = .ok (.iinc 4 1, 3) := by decide +kernel
theorem dX4_way_181 : decode cX4_way 181 = .ok (.goto (-102), 3) := by decide +kernel
theorem dX4_way_184 : decode cX4_way 184 = .ok (.aload_n 0, 1) := by decide +kernel
theorem dX4_way_185 : decode cX4_way 185 = .ok (.getfield 29, 3) := by decide +kernel
theorem dX4_way_188 : decode cX4_way 188 = .ok (.iload_n 2, 1) := by decide +kernel
theorem dX4_way_189 : decode cX4_way 189 = .ok (.iaload, 1) := by decide +kernel
theorem dX4_way_190 : decode cX4_way 190 = .ok (.bipush 48, 2) := by decide +kernel
theorem dX4_way_192 : decode cX4_way 192 = .ok (.if_icmp .ge 12, 3) := by decide +kernel
theorem dX4_way_195 : decode cX4_way 195 = .ok (.aload_n 0, 1) := by decide +kernel
theorem dX4_way_196 : decode cX4_way 196 = .ok (.getfield 29, 3) := by decide +kernel
theorem dX4_way_199 : decode cX4_way 199 = .ok (.iload_n 2, 1) := by decide +kernel
theorem dX4_way_200 : decode cX4_way 200 = .ok (.iaload, 1) := by decide +kernel
theorem dX4_way_201 : decode cX4_way 201 = .ok (.goto 9, 3) := by decide +kernel
theorem dX4_way_204 : decode cX4_way 204 = .ok (.aload_n 0, 1) := by decide +kernel
theorem dX4_way_205 : decode cX4_way 205 = .ok (.ldc 158, 2) := by decide +kernel
theorem dX4_way_207 : decode cX4_way 207 = .ok (.invokevirtual 74, 3) := by decide +kernel
theorem dX4_way_210 : decode cX4_way 210 = .ok (.ireturn, 1) := by decide +kernel
theorem dX4_feed_0 : decode cX4_feed 0 = .ok (.iload_n 2, 1) := by decide +kernel
theorem dX4_feed_1 : decode cX4_feed 1 = .ok (.i2l, 1) := by decide +kernel
theorem dX4_feed_2 : decode cX4_feed 2 = .ok (.lconst 1, 1) := by decide +kernel
theorem dX4_feed_3 : decode cX4_feed 3 = .ok (.ldc2_w 78, 3) := by decide +kernel
theorem dX4_feed_6 : decode cX4_feed 6 = .ok (.invokestatic 51, 3) := by decide +kernel
theorem dX4_feed_9 : decode cX4_feed 9 = .ok (.ifCond .ne 10, 3) := by decide +kernel
theorem dX4_feed_12 : decode cX4_feed 12 = .ok (.aload_n 0, 1) := by decide +kernel
theorem dX4_feed_13 : decode cX4_feed 13 = .ok (.ldc 48, 2) := by decide +kernel
theorem dX4_feed_15 : decode cX4_feed 15 = .ok (.invokevirtual 74, 3) := by decide +kernel
theorem dX4_feed_18 : decode cX4_feed 18 = .ok (.ireturn, 1) := by decide +kernel
theorem dX4_feed_19 : decode cX4_feed 19 = .ok (.aload_n 0, 1) := by decide +kernel
theorem dX4_feed_20 : decode cX4_feed 20 = .ok (.getfield 174, 3) := by decide +kernel
theorem dX4_feed_23 : decode cX4_feed 23 = .ok (.iload_n 2, 1) := by decide +kernel
theorem dX4_feed_24 : decode cX4_feed 24 = .ok (.iadd, 1) := by decide +kernel
theorem dX4_feed_25 : decode cX4_feed 25 = .ok (.bipush 120, 2) := by decide +kernel
theorem dX4_feed_27 : decode cX4_feed 27 = .ok (.if_icmp .le 10, 3) := by decide +kernel
theorem dX4_feed_30 : decode cX4_feed 30 = .ok (.aload_n 0, 1) := by decide +kernel
theorem dX4_feed_31 : decode cX4_feed 31 = .ok (.ldc 96, 2) := by decide +kernel
theorem dX4_feed_33 : decode cX4_feed 33 = .ok (.invokevirtual 74, 3) := by decide +kernel
theorem dX4_feed_36 : decode cX4_feed 36 = .ok (.ireturn, 1) := by decide +kernel
theorem dX4_feed_37 : decode cX4_feed 37 = .ok (.iload_n 2, 1) := by decide +kernel
theorem dX4_feed_38 : decode cX4_feed 38 = .ok (.iconst 1, 1) := by decide +kernel
theorem dX4_feed_39 : decode cX4_feed 39 = .ok (.isub, 1) := by decide +kernel
theorem dX4_feed_40 : decode cX4_feed 40 = .ok (.istore_n 3, 1) := by decide +kernel
theorem dX4_feed_41 : decode cX4_feed 41 = .ok (.iload_n 3, 1) := by decide +kernel
theorem dX4_feed_42 : decode cX4_feed 42 = .ok (.ifCond .lt 38, 3) := by decide +kernel
theorem dX4_feed_45 : decode cX4_feed 45 = .ok (.aload_n 0, 1) := by decide +kernel
theorem dX4_feed_46 : decode cX4_feed 46 = .ok (.getfield 32, 3) := by decide +kernel
theorem dX4_feed_49 : decode cX4_feed 49 = .ok (.aload_n 0, 1) := by decide +kernel
theorem dX4_feed_50 : decode cX4_feed 50 = .ok (.getfield 174, 3) := by decide +kernel
theorem dX4_feed_53 : decode cX4_feed 53 = .ok (.iload_n 1, 1) := by decide +kernel
theorem dX4_feed_54 : decode cX4_feed 54 = .ok (.bipush 8, 2) := by decide +kernel
theorem dX4_feed_56 : decode cX4_feed 56 = .ok (.iload_n 3, 1) := by decide +kernel
theorem dX4_feed_57 : decode cX4_feed 57 = .ok (.imul, 1) := by decide +kernel
theorem dX4_feed_58 : decode cX4_feed 58 = .ok (.ishr, 1) := by decide +kernel
theorem dX4_feed_59 : decode cX4_feed 59 = .ok (.sipush 255, 3) := by decide +kernel
theorem dX4_feed_62 : decode cX4_feed 62 = .ok (.iand, 1) := by decide +kernel
theorem dX4_feed_63 : decode cX4_feed 63 = .ok (.iastore, 1) := by decide +kernel
theorem dX4_feed_64 : decode cX4_feed 64 = .ok (.aload_n 0, 1) := by decide +kernel
theorem dX4_feed_65 : decode cX4_feed 65 = .ok (.dup, 1) := by decide +kernel
theorem dX4_feed_66 : decode cX4_feed 66 = .ok (.getfield 174, 3) := by decide +kernel
theorem dX4_feed_69 : decode cX4_feed 69 = .ok (.iconst 1, 1) := by decide +kernel
theorem dX4_feed_70 : decode cX4_feed 70 = .ok (.iadd, 1) := by decide +kernel
theorem dX4_feed_71 : decode cX4_feed 71 = .ok (.putfield 174, 3) := by decide +kernel
theorem dX4_feed_74 : decode cX4_feed 74 = .ok (.iinc 3 (-1), 3) := by decide +kernel
theorem dX4_feed_77 : decode cX4_feed 77 = .ok (.goto (-36), 3) := by decide +kernel
theorem dX4_feed_80 : decode cX4_feed 80 = .ok (.aload_n 0, 1) := by decide +kernel
theorem dX4_feed_81 : decode cX4_feed 81 = .ok (.getfield 174, 3) := by decide +kernel
theorem dX4_feed_84 : decode cX4_feed 84 = .ok (.ireturn, 1) := by decide +kernel
theorem dX4_wipe_0 : decode cX4_wipe 0 = .ok (.aload_n 0, 1) := by decide +kernel
theorem dX4_wipe_1 : decode cX4_wipe 1 = .ok (.getfield 174, 3) := by decide +kernel
theorem dX4_wipe_4 : decode cX4_wipe 4 = .ok (.istore_n 1, 1) := by decide +kernel
theorem dX4_wipe_5 : decode cX4_wipe 5 = .ok (.aload_n 0, 1) := by decide +kernel
theorem dX4_wipe_6 : decode cX4_wipe 6 = .ok (.iconst 0, 1) := by decide +kernel
theorem dX4_wipe_7 : decode cX4_wipe 7 = .ok (.putfield 174, 3) := by decide +kernel
theorem dX4_wipe_10 : decode cX4_wipe 10 = .ok (.iload_n 1, 1) := by decide +kernel
theorem dX4_wipe_11 : decode cX4_wipe 11 = .ok (.ireturn, 1) := by decide +kernel
theorem dX4_byteAt_0 : decode cX4_byteAt 0 = .ok (.iload_n 1, 1) := by decide +kernel
theorem dX4_byteAt_1 : decode cX4_byteAt 1 = .ok (.aload_n 0, 1) := by decide +kernel
theorem dX4_byteAt_2 : decode cX4_byteAt 2 = .ok (.getfield 174, 3) := by decide +kernel
theorem dX4_byteAt_5 : decode cX4_byteAt 5 = .ok (.if_icmp .ge 12, 3) := by decide +kernel
theorem dX4_byteAt_8 : decode cX4_byteAt 8 = .ok (.aload_n 0, 1) := by decide +kernel
theorem dX4_byteAt_9 : decode cX4_byteAt 9 = .ok (.getfield 32, 3) := by decide +kernel
theorem dX4_byteAt_12 : decode cX4_byteAt 12 = .ok (.iload_n 1, 1) := by decide +kernel
theorem dX4_byteAt_13 : decode cX4_byteAt 13 = .ok (.iaload, 1) := by decide +kernel
theorem dX4_byteAt_14 : decode cX4_byteAt 14 = .ok (.goto 4, 3) := by decide +kernel
theorem dX4_byteAt_17 : decode cX4_byteAt 17 = .ok (.iconst (-1), 1) := by decide +kernel
theorem dX4_byteAt_18 : decode cX4_byteAt 18 = .ok (.ireturn, 1) := by decide +kernel
theorem dX4_isLetter_0 : decode cX4_isLetter 0 = .ok (.iload_n 0, 1) := by decide +kernel
theorem dX4_isLetter_1 : decode cX4_isLetter 1 = .ok (.i2l, 1) := by decide +kernel
theorem dX4_isLetter_2 : decode cX4_isLetter 2 = .ok (.ldc2_w 177, 3) := by decide +kernel
theorem dX4_isLetter_5 : decode cX4_isLetter 5 = .ok (.ldc2_w 179, 3) := by decide +kernel
theorem dX4_isLetter_8 : decode cX4_isLetter 8 = .ok (.invokestatic 51, 3) := by decide +kernel
theorem dX4_isLetter_11 : decode cX4_isLetter 11 = .ok (.ireturn, 1) := by decide +kernel
theorem dX4_isDigit_0 : decode cX4_isDigit 0 = .ok (.iload_n 0, 1) := by decide +kernel
theorem dX4_isDigit_1 : decode cX4_isDigit 1 = .ok (.i2l, 1) := by decide +kernel
theorem dX4_isDigit_2 : decode cX4_isDigit 2 = .ok (.ldc2_w 181, 3) := by decide +kernel
theorem dX4_isDigit_5 : decode cX4_isDigit 5 = .ok (.ldc2_w 183, 3) := by decide +kernel
theorem dX4_isDigit_8 : decode cX4_isDigit 8 = .ok (.invokestatic 51, 3) := by decide +kernel
theorem dX4_isDigit_11 : decode cX4_isDigit 11 = .ok (.ireturn, 1) := by decide +kernel
theorem dX4_token_0 : decode cX4_token 0 = .ok (.aload_n 0, 1) := by decide +kernel
theorem dX4_token_1 : decode cX4_token 1 = .ok (.aload_n 0, 1) := by decide +kernel
theorem dX4_token_2 : decode cX4_token 2 = .ok (.getfield 185, 3) := by decide +kernel
theorem dX4_token_5 : decode cX4_token 5 = .ok (.putfield 188, 3) := by decide +kernel
theorem dX4_token_8 : decode cX4_token 8 = .ok (.aload_n 0, 1) := by decide +kernel
theorem dX4_token_9 : decode cX4_token 9 = .ok (.aload_n 0, 1) := by decide +kernel
theorem dX4_token_10 : decode cX4_token 10 = .ok (.getfield 188, 3) := by decide +kernel
theorem dX4_token_13 : decode cX4_token 13 = .ok (.invokevirtual 191, 3) := by decide +kernel
theorem dX4_token_16 : decode cX4_token 16 = .ok (.bipush 32, 2) := by decide +kernel
theorem dX4_token_18 : decode cX4_token 18 = .ok (.if_icmp .ne 16, 3) := by decide +kernel
theorem dX4_token_21 : decode cX4_token 21 = .ok (.aload_n 0, 1) := by decide +kernel
theorem dX4_token_22 : decode cX4_token 22 = .ok (.dup, 1) := by decide +kernel
theorem dX4_token_23 : decode cX4_token 23 = .ok (.getfield 188, 3) := by decide +kernel
theorem dX4_token_26 : decode cX4_token 26 = .ok (.iconst 1, 1) := by decide +kernel
theorem dX4_token_27 : decode cX4_token 27 = .ok (.iadd, 1) := by decide +kernel
theorem dX4_token_28 : decode cX4_token 28 = .ok (.putfield 188, 3) := by decide +kernel
theorem dX4_token_31 : decode cX4_token 31 = .ok (.goto (-23), 3) := by decide +kernel
theorem dX4_token_34 : decode cX4_token 34 = .ok (.aload_n 0, 1) := by decide +kernel
theorem dX4_token_35 : decode cX4_token 35 = .ok (.aload_n 0, 1) := by decide +kernel
theorem dX4_token_36 : decode cX4_token 36 = .ok (.getfield 188, 3) := by decide +kernel
theorem dX4_token_39 : decode cX4_token 39 = .ok (.invokevirtual 191, 3) := by decide +kernel
theorem dX4_token_42 : decode cX4_token 42 = .ok (.invokestatic 194, 3) := by decide +kernel
theorem dX4_token_45 : decode cX4_token 45 = .ok (.istore_n 1, 1) := by decide +kernel
theorem dX4_token_46 : decode cX4_token 46 = .ok (.aload_n 0, 1) := by decide +kernel
theorem dX4_token_47 : decode cX4_token 47 = .ok (.aload_n 0, 1) := by decide +kernel
theorem dX4_token_48 : decode cX4_token 48 = .ok (.getfield 188, 3) := by decide +kernel
theorem dX4_token_51 : decode cX4_token 51 = .ok (.invokevirtual 191, 3) := by decide +kernel
theorem dX4_token_54 : decode cX4_token 54 = .ok (.invokestatic 197, 3) := by decide +kernel
theorem dX4_token_57 : decode cX4_token 57 = .ok (.istore_n 2, 1) := by decide +kernel
theorem dX4_token_58 : decode cX4_token 58 = .ok (.aload_n 0, 1) := by decide +kernel
theorem dX4_token_59 : decode cX4_token 59 = .ok (.aload_n 0, 1) := by decide +kernel
theorem dX4_token_60 : decode cX4_token 60 = .ok (.getfield 188, 3) := by decide +kernel
theorem dX4_token_63 : decode cX4_token 63 = .ok (.aload_n 0, 1) := by decide +kernel
theorem dX4_token_64 : decode cX4_token 64 = .ok (.getfield 174, 3) := by decide +kernel
theorem dX4_token_67 : decode cX4_token 67 = .ok (.if_icmp .ge 12, 3) := by decide +kernel
theorem dX4_token_70 : decode cX4_token 70 = .ok (.aload_n 0, 1) := by decide +kernel
theorem dX4_token_71 : decode cX4_token 71 = .ok (.getfield 188, 3) := by decide +kernel
theorem dX4_token_74 : decode cX4_token 74 = .ok (.iconst 1, 1) := by decide +kernel
theorem dX4_token_75 : decode cX4_token 75 = .ok (.iadd, 1) := by decide +kernel
theorem dX4_token_76 : decode cX4_token 76 = .ok (.goto 7, 3) := by decide +kernel
theorem dX4_token_79 : decode cX4_token 79 = .ok (.aload_n 0, 1) := by decide +kernel
theorem dX4_token_80 : decode cX4_token 80 = .ok (.getfield 188, 3) := by decide +kernel
theorem dX4_token_83 : decode cX4_token 83 = .ok (.putfield 185, 3) := by decide +kernel
theorem dX4_token_86 : decode cX4_token 86 = .ok (.iload_n 1, 1) := by decide +kernel
theorem dX4_token_87 : decode cX4_token 87 = .ok (.ifCond .eq 17, 3) := by decide +kernel
theorem dX4_token_90 : decode cX4_token 90 = .ok (.aload_n 0, 1) := by decide +kernel
theorem dX4_token_91 : decode cX4_token 91 = .ok (.aload_n 0, 1) := by decide +kernel
theorem dX4_token_92 : decode cX4_token 92 = .ok (.getfield 185, 3) := by decide +kernel
theorem dX4_token_95 : decode cX4_token 95 = .ok (.invokevirtual 191, 3) := by decide +kernel
theorem dX4_token_98 : decode cX4_token 98 = .ok (.invokestatic 194, 3) := by decide +kernel
theorem dX4_token_101 : decode cX4_token 101 = .ok (.ifCond .ne 21, 3) := by decide +kernel
theorem dX4_token_104 : decode cX4_token 104 = .ok (.iload_n 2, 1) := by decide +kernel
theorem dX4_token_105 : decode cX4_token 105 = .ok (.ifCond .eq 30, 3) := by decide +kernel
theorem dX4_token_108 : decode cX4_token 108 = .ok (.aload_n 0, 1) := by decide +kernel
theorem dX4_token_109 : decode cX4_token 109 = .ok (.aload_n 0, 1) := by decide +kernel
theorem dX4_token_110 : decode cX4_token 110 = .ok (.getfield 185, 3) := by decide +kernel
theorem dX4_token_113 : decode cX4_token 113 = .ok (.invokevirtual 191, 3) := by decide +kernel
theorem dX4_token_116 : decode cX4_token 116 = .ok (.invokestatic 197, 3) := by decide +kernel
theorem dX4_token_119 : decode cX4_token 119 = .ok (.ifCond .eq 16, 3) := by decide +kernel
theorem dX4_token_122 : decode cX4_token 122 = .ok (.aload_n 0, 1) := by decide +kernel
theorem dX4_token_123 : decode cX4_token 123 = .ok (.dup, 1) := by decide +kernel
theorem dX4_token_124 : decode cX4_token 124 = .ok (.getfield 185, 3) := by decide +kernel
theorem dX4_token_127 : decode cX4_token 127 = .ok (.iconst 1, 1) := by decide +kernel
theorem dX4_token_128 : decode cX4_token 128 = .ok (.iadd, 1) := by decide +kernel
theorem dX4_token_129 : decode cX4_token 129 = .ok (.putfield 185, 3) := by decide +kernel
theorem dX4_token_132 : decode cX4_token 132 = .ok (.goto (-46), 3) := by decide +kernel
theorem dX4_token_135 : decode cX4_token 135 = .ok (.return_, 1) := by decide +kernel
theorem dX4_must_0 : decode cX4_must 0 = .ok (.aload_n 0, 1) := by decide +kernel
theorem dX4_must_1 : decode cX4_must 1 = .ok (.aload_n 0, 1) := by decide +kernel
theorem dX4_must_2 : decode cX4_must 2 = .ok (.getfield 200, 3) := by decide +kernel
theorem dX4_must_5 : decode cX4_must 5 = .ok (.ifCond .ne 7, 3) := by decide +kernel
theorem dX4_must_8 : decode cX4_must 8 = .ok (.iload_n 1, 1) := by decide +kernel
theorem dX4_must_9 : decode cX4_must 9 = .ok (.ifCond .ne 7, 3) := by decide +kernel
theorem dX4_must_12 : decode cX4_must 12 = .ok (.iconst 1, 1) := by decide +kernel
theorem dX4_must_13 : decode cX4_must 13 = .ok (.goto 4, 3) := by decide +kernel
theorem dX4_must_16 : decode cX4_must 16 = .ok (.iconst 0, 1) := by decide +kernel
theorem dX4_must_17 : decode cX4_must 17 = .ok (.putfield 200, 3) := by decide +kernel
theorem dX4_must_20 : decode cX4_must 20 = .ok (.aload_n 0, 1) := by decide +kernel
theorem dX4_must_21 : decode cX4_must 21 = .ok (.getfield 200, 3) := by decide +kernel
theorem dX4_must_24 : decode cX4_must 24 = .ok (.ifCond .ne 7, 3) := by decide +kernel
theorem dX4_must_27 : decode cX4_must 27 = .ok (.aload_n 0, 1) := by decide +kernel
theorem dX4_must_28 : decode cX4_must 28 = .ok (.invokevirtual 204, 3) := by decide +kernel
theorem dX4_must_31 : decode cX4_must 31 = .ok (.return_, 1) := by decide +kernel
theorem dX4_word_0 : decode cX4_word 0 = .ok (.lconst 0, 1) := by decide +kernel
theorem dX4_word_1 : decode cX4_word 1 = .ok (.lstore_n 1, 1) := by decide +kernel
theorem dX4_word_2 : decode cX4_word 2 = .ok (.aload_n 0, 1) := by decide +kernel
theorem dX4_word_3 : decode cX4_word 3 = .ok (.getfield 188, 3) := by decide +kernel
theorem dX4_word_6 : decode cX4_word 6 = .ok (.istore_n 3, 1) := by decide +kernel
theorem dX4_word_7 : decode cX4_word 7 = .ok (.iload_n 3, 1) := by decide +kernel
theorem dX4_word_8 : decode cX4_word 8 = .ok (.aload_n 0, 1) := by decide +kernel
theorem dX4_word_9 : decode cX4_word 9 = .ok (.getfield 185, 3) := by decide +kernel
theorem dX4_word_12 : decode cX4_word 12 = .ok (.if_icmp .ge 38, 3) := by decide +kernel
theorem dX4_word_15 : decode cX4_word 15 = .ok (.lload_n 1, 1) := by decide +kernel
theorem dX4_word_16 : decode cX4_word 16 = .ok (.ldc2_w 207, 3) := by decide +kernel
theorem dX4_word_19 : decode cX4_word 19 = .ok (.lcmp, 1) := by decide +kernel
theorem dX4_word_20 : decode cX4_word 20 = .ok (.ifCond .le 7, 3) := by decide +kernel
theorem dX4_word_23 : decode cX4_word 23 = .ok (.lload_n 1, 1) := by decide +kernel
theorem dX4_word_24 : decode cX4_word 24 = .ok (.goto 19, 3) := by decide +kernel
theorem dX4_word_27 : decode cX4_word 27 = .ok (.ldc2_w 209, 3) := by decide +kernel
theorem dX4_word_30 : decode cX4_word 30 = .ok (.lload_n 1, 1) := by decide +kernel
theorem dX4_word_31 : decode cX4_word 31 = .ok (.lmul, 1) := by decide +kernel
theorem dX4_word_32 : decode cX4_word 32 = .ok (.aload_n 0, 1) := by decide +kernel
theorem dX4_word_33 : decode cX4_word 33 = .ok (.getfield 32, 3) := by decide +kernel
theorem dX4_word_36 : decode cX4_word 36 = .ok (.iload_n 3, 1) := by decide +kernel
theorem dX4_word_37 : decode cX4_word 37 = .ok (.iaload, 1) := by decide +kernel
theorem dX4_word_38 : decode cX4_word 38 = .ok (.bipush 96, 2) := by decide +kernel
theorem dX4_word_40 : decode cX4_word 40 = .ok (.isub, 1) := by decide +kernel
theorem dX4_word_41 : decode cX4_word 41 = .ok (.i2l, 1) := by decide +kernel
theorem dX4_word_42 : decode cX4_word 42 = .ok (.ladd, 1) := by decide +kernel
theorem dX4_word_43 : decode cX4_word 43 = .ok (.lstore_n 1, 1) := by decide +kernel
theorem dX4_word_44 : decode cX4_word 44 = .ok (.iinc 3 1, 3) := by decide +kernel
theorem dX4_word_47 : decode cX4_word 47 = .ok (.goto (-40), 3) := by decide +kernel
theorem dX4_word_50 : decode cX4_word 50 = .ok (.aload_n 0, 1) := by decide +kernel
theorem dX4_word_51 : decode cX4_word 51 = .ok (.getfield 200, 3) := by decide +kernel
theorem dX4_word_54 : decode cX4_word 54 = .ok (.ifCond .ne 17, 3) := by decide +kernel
theorem dX4_word_57 : decode cX4_word 57 = .ok (.aload_n 0, 1) := by decide +kernel
theorem dX4_word_58 : decode cX4_word 58 = .ok (.aload_n 0, 1) := by decide +kernel
theorem dX4_word_59 : decode cX4_word 59 = .ok (.getfield 188, 3) := by decide +kernel
theorem dX4_word_62 : decode cX4_word 62 = .ok (.invokevirtual 191, 3) := by decide +kernel
theorem dX4_word_65 : decode cX4_word 65 = .ok (.invokestatic 194, 3) := by decide +kernel
theorem dX4_word_68 : decode cX4_word 68 = .ok (.ifCond .ne 7, 3) := by decide +kernel
theorem dX4_word_71 : decode cX4_word 71 = .ok (.lconst 0, 1) := by decide +kernel
theorem dX4_word_72 : decode cX4_word 72 = .ok (.goto 4, 3) := by decide +kernel
theorem dX4_word_75 : decode cX4_word 75 = .ok (.lload_n 1, 1) := by decide +kernel
theorem dX4_word_76 : decode cX4_word 76 = .ok (.lreturn, 1) := by decide +kernel
theorem dX4_number_0 : decode cX4_number 0 = .ok (.aload_n 0, 1) := by decide +kernel
theorem dX4_number_1 : decode cX4_number 1 = .ok (.getfield 200, 3) := by decide +kernel
theorem dX4_number_4 : decode cX4_number 4 = .ok (.ifCond .eq 4, 3) := by decide +kernel
theorem dX4_number_7 : decode cX4_number 7 = .ok (.return_, 1) := by decide +kernel
theorem dX4_number_8 : decode cX4_number 8 = .ok (.aload_n 0, 1) := by decide +kernel
theorem dX4_number_9 : decode cX4_number 9 = .ok (.aload_n 0, 1) := by decide +kernel
theorem dX4_number_10 : decode cX4_number 10 = .ok (.getfield 188, 3) := by decide +kernel
theorem dX4_number_13 : decode cX4_number 13 = .ok (.invokevirtual 191, 3) := by decide +kernel
theorem dX4_number_16 : decode cX4_number 16 = .ok (.invokestatic 197, 3) := by decide +kernel
theorem dX4_number_19 : decode cX4_number 19 = .ok (.istore_n 3, 1) := by decide +kernel
theorem dX4_number_20 : decode cX4_number 20 = .ok (.iconst 0, 1) := by decide +kernel
theorem dX4_number_21 : decode cX4_number 21 = .ok (.istore 4, 2) := by decide +kernel
theorem dX4_number_23 : decode cX4_number 23 = .ok (.aload_n 0, 1) := by decide +kernel
theorem dX4_number_24 : decode cX4_number 24 = .ok (.getfield 188, 3) := by decide +kernel
theorem dX4_number_27 : decode cX4_number 27 = .ok (.istore 5, 2) := by decide +kernel
theorem dX4_number_29 : decode cX4_number 29 = .ok (.iload 5, 2) := by decide +kernel
theorem dX4_number_31 : decode cX4_number 31 = .ok (.aload_n 0, 1) := by decide +kernel
theorem dX4_number_32 : decode cX4_number 32 = .ok (.getfield 185, 3) := by decide +kernel
theorem dX4_number_35 : decode cX4_number 35 = .ok (.if_icmp .ge 44, 3) := by decide +kernel
theorem dX4_number_38 : decode cX4_number 38 = .ok (.iload_n 3, 1) := by decide +kernel
theorem dX4_number_39 : decode cX4_number 39 = .ok (.ifCond .eq 40, 3) := by decide +kernel
theorem dX4_number_42 : decode cX4_number 42 = .ok (.iload 4, 2) := by decide +kernel
theorem dX4_number_44 : decode cX4_number 44 = .ok (.sipush 9999, 3) := by decide +kernel
theorem dX4_number_47 : decode cX4_number 47 = .ok (.if_icmp .le 8, 3) := by decide +kernel
theorem dX4_number_50 : decode cX4_number 50 = .ok (.iload 4, 2) := by decide +kernel
theorem dX4_number_52 : decode cX4_number 52 = .ok (.goto 19, 3) := by decide +kernel
theorem dX4_number_55 : decode cX4_number 55 = .ok (.bipush 10, 2) := by decide +kernel
theorem dX4_number_57 : decode cX4_number 57 = .ok (.iload 4, 2) := by decide +kernel
theorem dX4_number_59 : decode cX4_number 59 = .ok (.imul, 1) := by decide +kernel
theorem dX4_number_60 : decode cX4_number 60 = .ok (.aload_n 0, 1) := by decide +kernel
theorem dX4_number_61 : decode cX4_number 61 = .ok (.getfield 32, 3) := by decide +kernel
theorem dX4_number_64 : decode cX4_number 64 = .ok (.iload 5, 2) := by decide +kernel
theorem dX4_number_66 : decode cX4_number 66 = .ok (.iaload, 1) := by decide +kernel
theorem dX4_number_67 : decode cX4_number 67 = .ok (.iadd, 1) := by decide +kernel
theorem dX4_number_68 : decode cX4_number 68 = .ok (.bipush 48, 2) := by decide +kernel
theorem dX4_number_70 : decode cX4_number 70 = .ok (.isub, 1) := by decide +kernel
theorem dX4_number_71 : decode cX4_number 71 = .ok (.istore 4, 2) := by decide +kernel
theorem dX4_number_73 : decode cX4_number 73 = .ok (.iinc 5 1, 3) := by decide +kernel
theorem dX4_number_76 : decode cX4_number 76 = .ok (.goto (-47), 3) := by decide +kernel
theorem dX4_number_79 : decode cX4_number 79 = .ok (.aload_n 0, 1) := by decide +kernel
theorem dX4_number_80 : decode cX4_number 80 = .ok (.iload 4, 2) := by decide +kernel
theorem dX4_number_82 : decode cX4_number 82 = .ok (.putfield 211, 3) := by decide +kernel
theorem dX4_number_85 : decode cX4_number 85 = .ok (.aload_n 0, 1) := by decide +kernel
theorem dX4_number_86 : decode cX4_number 86 = .ok (.iload_n 3, 1) := by decide +kernel
theorem dX4_number_87 : decode cX4_number 87 = .ok (.ifCond .eq 20, 3) := by decide +kernel
theorem dX4_number_90 : decode cX4_number 90 = .ok (.iload 4, 2) := by decide +kernel
theorem dX4_number_92 : decode cX4_number 92 = .ok (.i2l, 1) := by decide +kernel
theorem dX4_number_93 : decode cX4_number 93 = .ok (.iload_n 1, 1) := by decide +kernel
theorem dX4_number_94 : decode cX4_number 94 = .ok (.i2l, 1) := by decide +kernel
theorem dX4_number_95 : decode cX4_number 95 = .ok (.iload_n 2, 1) := by decide +kernel
theorem dX4_number_96 : decode cX4_number 96 = .ok (.i2l, 1) := by decide +kernel
theorem dX4_number_97 : decode cX4_number 97 = .ok (.invokestatic 51, 3) := by decide +kernel
theorem dX4_number_100 : decode cX4_number 100 = .ok (.ifCond .eq 7, 3) := by decide +kernel
theorem dX4_number_103 : decode cX4_number 103 = .ok (.iconst 1, 1) := by decide +kernel
theorem dX4_number_104 : decode cX4_number 104 = .ok (.goto 4, 3) := by decide +kernel
theorem dX4_number_107 : decode cX4_number 107 = .ok (.iconst 0, 1) := by decide +kernel
theorem dX4_number_108 : decode cX4_number 108 = .ok (.invokevirtual 214, 3) := by decide +kernel
theorem dX4_number_111 : decode cX4_number 111 = .ok (.return_, 1) := by decide +kernel
theorem dX4_kindHere_0 : decode cX4_kindHere 0 = .ok (.aload_n 0, 1) := by decide +kernel
theorem dX4_kindHere_1 : decode cX4_kindHere 1 = .ok (.invokevirtual 218, 3) := by decide +kernel
theorem dX4_kindHere_4 : decode cX4_kindHere 4 = .ok (.lstore_n 1, 1) := by decide +kernel
theorem dX4_kindHere_5 : decode cX4_kindHere 5 = .ok (.lload_n 1, 1) := by decide +kernel
theorem dX4_kindHere_6 : decode cX4_kindHere 6 = .ok (.ldc2_w 222, 3) := by decide +kernel
theorem dX4_kindHere_9 : decode cX4_kindHere 9 = .ok (.lcmp, 1) := by decide +kernel
theorem dX4_kindHere_10 : decode cX4_kindHere 10 = .ok (.ifCond .ne 7, 3) := by decide +kernel
theorem dX4_kindHere_13 : decode cX4_kindHere 13 = .ok (.iconst 0, 1) := by decide +kernel
theorem dX4_kindHere_14 : decode cX4_kindHere 14 = .ok (.goto 64, 3) := by decide +kernel
theorem dX4_kindHere_17 : decode cX4_kindHere 17 = .ok (.lload_n 1, 1) := by decide +kernel
theorem dX4_kindHere_18 : decode cX4_kindHere 18 = .ok (.ldc2_w 224, 3) := by decide +kernel
theorem dX4_kindHere_21 : decode cX4_kindHere 21 = .ok (.lcmp, 1) := by decide +kernel
theorem dX4_kindHere_22 : decode cX4_kindHere 22 = .ok (.ifCond .ne 7, 3) := by decide +kernel
theorem dX4_kindHere_25 : decode cX4_kindHere 25 = .ok (.iconst 1, 1) := by decide +kernel
theorem dX4_kindHere_26 : decode cX4_kindHere 26 = .ok (.goto 52, 3) := by decide +kernel
theorem dX4_kindHere_29 : decode cX4_kindHere 29 = .ok (.lload_n 1, 1) := by decide +kernel
theorem dX4_kindHere_30 : decode cX4_kindHere 30 = .ok (.ldc2_w 226, 3) := by decide +kernel
theorem dX4_kindHere_33 : decode cX4_kindHere 33 = .ok (.lcmp, 1) := by decide +kernel
theorem dX4_kindHere_34 : decode cX4_kindHere 34 = .ok (.ifCond .ne 7, 3) := by decide +kernel
theorem dX4_kindHere_37 : decode cX4_kindHere 37 = .ok (.iconst 2, 1) := by decide +kernel
theorem dX4_kindHere_38 : decode cX4_kindHere 38 = .ok (.goto 40, 3) := by decide +kernel
theorem dX4_kindHere_41 : decode cX4_kindHere 41 = .ok (.lload_n 1, 1) := by decide +kernel
theorem dX4_kindHere_42 : decode cX4_kindHere 42 = .ok (.ldc2_w 228, 3) := by decide +kernel
theorem dX4_kindHere_45 : decode cX4_kindHere 45 = .ok (.lcmp, 1) := by decide +kernel
theorem dX4_kindHere_46 : decode cX4_kindHere 46 = .ok (.ifCond .ne 7, 3) := by decide +kernel
theorem dX4_kindHere_49 : decode cX4_kindHere 49 = .ok (.iconst 3, 1) := by decide +kernel
theorem dX4_kindHere_50 : decode cX4_kindHere 50 = .ok (.goto 28, 3) := by decide +kernel
theorem dX4_kindHere_53 : decode cX4_kindHere 53 = .ok (.lload_n 1, 1) := by decide +kernel
theorem dX4_kindHere_54 : decode cX4_kindHere 54 = .ok (.ldc2_w 230, 3) := by decide +kernel
theorem dX4_kindHere_57 : decode cX4_kindHere 57 = .ok (.lcmp, 1) := by decide +kernel
theorem dX4_kindHere_58 : decode cX4_kindHere 58 = .ok (.ifCond .ne 7, 3) := by decide +kernel
theorem dX4_kindHere_61 : decode cX4_kindHere 61 = .ok (.iconst 4, 1) := by decide +kernel
theorem dX4_kindHere_62 : decode cX4_kindHere 62 = .ok (.goto 16, 3) := by decide +kernel
theorem dX4_kindHere_65 : decode cX4_kindHere 65 = .ok (.lload_n 1, 1) := by decide +kernel
theorem dX4_kindHere_66 : decode cX4_kindHere 66 = .ok (.ldc2_w 232, 3) := by decide +kernel
theorem dX4_kindHere_69 : decode cX4_kindHere 69 = .ok (.lcmp, 1) := by decide +kernel
theorem dX4_kindHere_70 : decode cX4_kindHere 70 = .ok (.ifCond .ne 7, 3) := by decide +kernel
theorem dX4_kindHere_73 : decode cX4_kindHere 73 = .ok (.iconst 5, 1) := by decide +kernel
theorem dX4_kindHere_74 : decode cX4_kindHere 74 = .ok (.goto 4, 3) := by decide +kernel
theorem dX4_kindHere_77 : decode cX4_kindHere 77 = .ok (.iconst (-1), 1) := by decide +kernel
theorem dX4_kindHere_78 : decode cX4_kindHere 78 = .ok (.ireturn, 1) := by decide +kernel
theorem dX4_sortHere_0 : decode cX4_sortHere 0 = .ok (.aload_n 0, 1) := by decide +kernel
theorem dX4_sortHere_1 : decode cX4_sortHere 1 = .ok (.invokevirtual 218, 3) := by decide +kernel
theorem dX4_sortHere_4 : decode cX4_sortHere 4 = .ok (.lstore_n 1, 1) := by decide +kernel
theorem dX4_sortHere_5 : decode cX4_sortHere 5 = .ok (.lload_n 1, 1) := by decide +kernel
theorem dX4_sortHere_6 : decode cX4_sortHere 6 = .ok (.ldc2_w 234, 3) := by decide +kernel
theorem dX4_sortHere_9 : decode cX4_sortHere 9 = .ok (.lcmp, 1) := by decide +kernel
theorem dX4_sortHere_10 : decode cX4_sortHere 10 = .ok (.ifCond .ne 7, 3) := by decide +kernel
theorem dX4_sortHere_13 : decode cX4_sortHere 13 = .ok (.iconst 0, 1) := by decide +kernel
theorem dX4_sortHere_14 : decode cX4_sortHere 14 = .ok (.goto 64, 3) := by decide +kernel
theorem dX4_sortHere_17 : decode cX4_sortHere 17 = .ok (.lload_n 1, 1) := by decide +kernel
theorem dX4_sortHere_18 : decode cX4_sortHere 18 = .ok (.ldc2_w 236, 3) := by decide +kernel
theorem dX4_sortHere_21 : decode cX4_sortHere 21 = .ok (.lcmp, 1) := by decide +kernel
theorem dX4_sortHere_22 : decode cX4_sortHere 22 = .ok (.ifCond .ne 7, 3) := by decide +kernel
theorem dX4_sortHere_25 : decode cX4_sortHere 25 = .ok (.iconst 1, 1) := by decide +kernel
theorem dX4_sortHere_26 : decode cX4_sortHere 26 = .ok (.goto 52, 3) := by decide +kernel
theorem dX4_sortHere_29 : decode cX4_sortHere 29 = .ok (.lload_n 1, 1) := by decide +kernel
theorem dX4_sortHere_30 : decode cX4_sortHere 30 = .ok (.ldc2_w 238, 3) := by decide +kernel
theorem dX4_sortHere_33 : decode cX4_sortHere 33 = .ok (.lcmp, 1) := by decide +kernel
theorem dX4_sortHere_34 : decode cX4_sortHere 34 = .ok (.ifCond .ne 7, 3) := by decide +kernel
theorem dX4_sortHere_37 : decode cX4_sortHere 37 = .ok (.iconst 2, 1) := by decide +kernel
theorem dX4_sortHere_38 : decode cX4_sortHere 38 = .ok (.goto 40, 3) := by decide +kernel
theorem dX4_sortHere_41 : decode cX4_sortHere 41 = .ok (.lload_n 1, 1) := by decide +kernel
theorem dX4_sortHere_42 : decode cX4_sortHere 42 = .ok (.ldc2_w 240, 3) := by decide +kernel
theorem dX4_sortHere_45 : decode cX4_sortHere 45 = .ok (.lcmp, 1) := by decide +kernel
theorem dX4_sortHere_46 : decode cX4_sortHere 46 = .ok (.ifCond .ne 7, 3) := by decide +kernel
theorem dX4_sortHere_49 : decode cX4_sortHere 49 = .ok (.iconst 3, 1) := by decide +kernel
theorem dX4_sortHere_50 : decode cX4_sortHere 50 = .ok (.goto 28, 3) := by decide +kernel
theorem dX4_sortHere_53 : decode cX4_sortHere 53 = .ok (.lload_n 1, 1) := by decide +kernel
theorem dX4_sortHere_54 : decode cX4_sortHere 54 = .ok (.ldc2_w 242, 3) := by decide +kernel
theorem dX4_sortHere_57 : decode cX4_sortHere 57 = .ok (.lcmp, 1) := by decide +kernel
theorem dX4_sortHere_58 : decode cX4_sortHere 58 = .ok (.ifCond .ne 7, 3) := by decide +kernel
theorem dX4_sortHere_61 : decode cX4_sortHere 61 = .ok (.iconst 4, 1) := by decide +kernel
theorem dX4_sortHere_62 : decode cX4_sortHere 62 = .ok (.goto 16, 3) := by decide +kernel
theorem dX4_sortHere_65 : decode cX4_sortHere 65 = .ok (.lload_n 1, 1) := by decide +kernel
theorem dX4_sortHere_66 : decode cX4_sortHere 66 = .ok (.ldc2_w 244, 3) := by decide +kernel
theorem dX4_sortHere_69 : decode cX4_sortHere 69 = .ok (.lcmp, 1) := by decide +kernel
theorem dX4_sortHere_70 : decode cX4_sortHere 70 = .ok (.ifCond .ne 7, 3) := by decide +kernel
theorem dX4_sortHere_73 : decode cX4_sortHere 73 = .ok (.iconst 5, 1) := by decide +kernel
theorem dX4_sortHere_74 : decode cX4_sortHere 74 = .ok (.goto 4, 3) := by decide +kernel
theorem dX4_sortHere_77 : decode cX4_sortHere 77 = .ok (.iconst (-1), 1) := by decide +kernel
theorem dX4_sortHere_78 : decode cX4_sortHere 78 = .ok (.ireturn, 1) := by decide +kernel
theorem dX4_menderItem_0 : decode cX4_menderItem 0 = .ok (.aload_n 0, 1) := by decide +kernel
theorem dX4_menderItem_1 : decode cX4_menderItem 1 = .ok (.aload_n 0, 1) := by decide +kernel
theorem dX4_menderItem_2 : decode cX4_menderItem 2 = .ok (.getfield 7, 3) := by decide +kernel
theorem dX4_menderItem_5 : decode cX4_menderItem 5 = .ok (.iconst 0, 1) := by decide +kernel
theorem dX4_menderItem_6 : decode cX4_menderItem 6 = .ok (.iaload, 1) := by decide +kernel
theorem dX4_menderItem_7 : decode cX4_menderItem 7 = .ok (.bipush 6, 2) := by decide +kernel
theorem dX4_menderItem_9 : decode cX4_menderItem 9 = .ok (.if_icmp .ge 7, 3) := by decide +kernel
theorem dX4_menderItem_12 : decode cX4_menderItem 12 = .ok (.iconst 1, 1) := by decide +kernel
theorem dX4_menderItem_13 : decode cX4_menderItem 13 = .ok (.goto 4, 3) := by decide +kernel
theorem dX4_menderItem_16 : decode cX4_menderItem 16 = .ok (.iconst 0, 1) := by decide +kernel
theorem dX4_menderItem_17 : decode cX4_menderItem 17 = .ok (.invokevirtual 214, 3) := by decide +kernel
theorem dX4_menderItem_20 : decode cX4_menderItem 20 = .ok (.aload_n 0, 1) := by decide +kernel
theorem dX4_menderItem_21 : decode cX4_menderItem 21 = .ok (.aload_n 0, 1) := by decide +kernel
theorem dX4_menderItem_22 : decode cX4_menderItem 22 = .ok (.invokevirtual 218, 3) := by decide +kernel
theorem dX4_menderItem_25 : decode cX4_menderItem 25 = .ok (.ldc2_w 246, 3) := by decide +kernel
theorem dX4_menderItem_28 : decode cX4_menderItem 28 = .ok (.lcmp, 1) := by decide +kernel
theorem dX4_menderItem_29 : decode cX4_menderItem 29 = .ok (.ifCond .ne 7, 3) := by decide +kernel
theorem dX4_menderItem_32 : decode cX4_menderItem 32 = .ok (.iconst 1, 1) := by decide +kernel
theorem dX4_menderItem_33 : decode cX4_menderItem 33 = .ok (.goto 4, 3) := by decide +kernel
theorem dX4_menderItem_36 : decode cX4_menderItem 36 = .ok (.iconst 0, 1) := by decide +kernel
theorem dX4_menderItem_37 : decode cX4_menderItem 37 = .ok (.invokevirtual 214, 3) := by decide +kernel
theorem dX4_menderItem_40 : decode cX4_menderItem 40 = .ok (.aload_n 0, 1) := by decide +kernel
theorem dX4_menderItem_41 : decode cX4_menderItem 41 = .ok (.iconst 0, 1) := by decide +kernel
theorem dX4_menderItem_42 : decode cX4_menderItem 42 = .ok (.bipush 47, 2) := by decide +kernel
theorem dX4_menderItem_44 : decode cX4_menderItem 44 = .ok (.invokevirtual 248, 3) := by decide +kernel
theorem dX4_menderItem_47 : decode cX4_menderItem 47 = .ok (.aload_n 0, 1) := by decide +kernel
theorem dX4_menderItem_48 : decode cX4_menderItem 48 = .ok (.getfield 200, 3) := by decide +kernel
theorem dX4_menderItem_51 : decode cX4_menderItem 51 = .ok (.ifCond .eq 4, 3) := by decide +kernel
theorem dX4_menderItem_54 : decode cX4_menderItem 54 = .ok (.return_, 1) := by decide +kernel
theorem dX4_menderItem_55 : decode cX4_menderItem 55 = .ok (.aload_n 0, 1) := by decide +kernel
theorem dX4_menderItem_56 : decode cX4_menderItem 56 = .ok (.iload_n 1, 1) := by decide +kernel
theorem dX4_menderItem_57 : decode cX4_menderItem 57 = .ok (.aload_n 0, 1) := by decide +kernel
theorem dX4_menderItem_58 : decode cX4_menderItem 58 = .ok (.getfield 211, 3) := by decide +kernel
theorem dX4_menderItem_61 : decode cX4_menderItem 61 = .ok (.invokevirtual 97, 3) := by decide +kernel
theorem dX4_menderItem_64 : decode cX4_menderItem 64 = .ok (.istore_n 2, 1) := by decide +kernel
theorem dX4_menderItem_65 : decode cX4_menderItem 65 = .ok (.aload_n 0, 1) := by decide +kernel
theorem dX4_menderItem_66 : decode cX4_menderItem 66 = .ok (.invokevirtual 218, 3) := by decide +kernel
theorem dX4_menderItem_69 : decode cX4_menderItem 69 = .ok (.ldc2_w 251, 3) := by decide +kernel
theorem dX4_menderItem_72 : decode cX4_menderItem 72 = .ok (.lcmp, 1) := by decide +kernel
theorem dX4_menderItem_73 : decode cX4_menderItem 73 = .ok (.ifCond .ne 30, 3) := by decide +kernel
theorem dX4_menderItem_76 : decode cX4_menderItem 76 = .ok (.aload_n 0, 1) := by decide +kernel
theorem dX4_menderItem_77 : decode cX4_menderItem 77 = .ok (.iconst 1, 1) := by decide +kernel
theorem dX4_menderItem_78 : decode cX4_menderItem 78 = .ok (.invokevirtual 214, 3) := by decide +kernel
theorem dX4_menderItem_81 : decode cX4_menderItem 81 = .ok (.aload_n 0, 1) := by decide +kernel
theorem dX4_menderItem_82 : decode cX4_menderItem 82 = .ok (.iconst 0, 1) := by decide +kernel
theorem dX4_menderItem_83 : decode cX4_menderItem 83 = .ok (.sipush 9999, 3) := by decide +kernel
theorem dX4_menderItem_86 : decode cX4_menderItem 86 = .ok (.invokevirtual 248, 3) := by decide +kernel
theorem dX4_menderItem_89 : decode cX4_menderItem 89 = .ok (.aload_n 0, 1) := by decide +kernel
theorem dX4_menderItem_90 : decode cX4_menderItem 90 = .ok (.getfield 7, 3) := by decide +kernel
theorem dX4_menderItem_93 : decode cX4_menderItem 93 = .ok (.iload_n 2, 1) := by decide +kernel
theorem dX4_menderItem_94 : decode cX4_menderItem 94 = .ok (.iconst 2, 1) := by decide +kernel
theorem dX4_menderItem_95 : decode cX4_menderItem 95 = .ok (.invokestatic 57, 3) := by decide +kernel
theorem dX4_menderItem_98 : decode cX4_menderItem 98 = .ok (.aload_n 0, 1) := by decide +kernel
theorem dX4_menderItem_99 : decode cX4_menderItem 99 = .ok (.getfield 211, 3) := by decide +kernel
theorem dX4_menderItem_102 : decode cX4_menderItem 102 = .ok (.iastore, 1) := by decide +kernel
theorem dX4_menderItem_103 : decode cX4_menderItem 103 = .ok (.return_, 1) := by decide +kernel
theorem dX4_cellsItem_0 : decode cX4_cellsItem 0 = .ok (.aload_n 0, 1) := by decide +kernel
theorem dX4_cellsItem_1 : decode cX4_cellsItem 1 = .ok (.iconst 1, 1) := by decide +kernel
theorem dX4_cellsItem_2 : decode cX4_cellsItem 2 = .ok (.invokevirtual 214, 3) := by decide +kernel
theorem dX4_cellsItem_5 : decode cX4_cellsItem 5 = .ok (.aload_n 0, 1) := by decide +kernel
theorem dX4_cellsItem_6 : decode cX4_cellsItem 6 = .ok (.iconst 0, 1) := by decide +kernel
theorem dX4_cellsItem_7 : decode cX4_cellsItem 7 = .ok (.bipush 47, 2) := by decide +kernel
theorem dX4_cellsItem_9 : decode cX4_cellsItem 9 = .ok (.invokevirtual 248, 3) := by decide +kernel
theorem dX4_cellsItem_12 : decode cX4_cellsItem 12 = .ok (.aload_n 0, 1) := by decide +kernel
theorem dX4_cellsItem_13 : decode cX4_cellsItem 13 = .ok (.getfield 211, 3) := by decide +kernel
theorem dX4_cellsItem_16 : decode cX4_cellsItem 16 = .ok (.istore_n 2, 1) := by decide +kernel
theorem dX4_cellsItem_17 : decode cX4_cellsItem 17 = .ok (.aload_n 0, 1) := by decide +kernel
theorem dX4_cellsItem_18 : decode cX4_cellsItem 18 = .ok (.invokevirtual 253, 3) := by decide +kernel
theorem dX4_cellsItem_21 : decode cX4_cellsItem 21 = .ok (.istore_n 3, 1) := by decide +kernel
theorem dX4_cellsItem_22 : decode cX4_cellsItem 22 = .ok (.aload_n 0, 1) := by decide +kernel
theorem dX4_cellsItem_23 : decode cX4_cellsItem 23 = .ok (.iload_n 3, 1) := by decide +kernel
theorem dX4_cellsItem_24 : decode cX4_cellsItem 24 = .ok (.ifCond .lt 7, 3) := by decide +kernel
theorem dX4_cellsItem_27 : decode cX4_cellsItem 27 = .ok (.iconst 1, 1) := by decide +kernel
theorem dX4_cellsItem_28 : decode cX4_cellsItem 28 = .ok (.goto 4, 3) := by decide +kernel
theorem dX4_cellsItem_31 : decode cX4_cellsItem 31 = .ok (.iconst 0, 1) := by decide +kernel
theorem dX4_cellsItem_32 : decode cX4_cellsItem 32 = .ok (.invokevirtual 214, 3) := by decide +kernel
theorem dX4_cellsItem_35 : decode cX4_cellsItem 35 = .ok (.iload_n 2, 1) := by decide +kernel
theorem dX4_cellsItem_36 : decode cX4_cellsItem 36 = .ok (.istore 4, 2) := by decide +kernel
theorem dX4_cellsItem_38 : decode cX4_cellsItem 38 = .ok (.aload_n 0, 1) := by decide +kernel
theorem dX4_cellsItem_39 : decode cX4_cellsItem 39 = .ok (.invokevirtual 218, 3) := by decide +kernel
theorem dX4_cellsItem_42 : decode cX4_cellsItem 42 = .ok (.ldc2_w 256, 3) := by decide +kernel
theorem dX4_cellsItem_45 : decode cX4_cellsItem 45 = .ok (.lcmp, 1) := by decide +kernel
theorem dX4_cellsItem_46 : decode cX4_cellsItem 46 = .ok (.ifCond .ne 21, 3) := by decide +kernel
theorem dX4_cellsItem_49 : decode cX4_cellsItem 49 = .ok (.aload_n 0, 1) := by decide +kernel
theorem dX4_cellsItem_50 : decode cX4_cellsItem 50 = .ok (.iconst 1, 1) := by decide +kernel
theorem dX4_cellsItem_51 : decode cX4_cellsItem 51 = .ok (.invokevirtual 214, 3) := by decide +kernel
theorem dX4_cellsItem_54 : decode cX4_cellsItem 54 = .ok (.aload_n 0, 1) := by decide +kernel
theorem dX4_cellsItem_55 : decode cX4_cellsItem 55 = .ok (.iload_n 2, 1) := by decide +kernel
theorem dX4_cellsItem_56 : decode cX4_cellsItem 56 = .ok (.bipush 47, 2) := by decide +kernel
theorem dX4_cellsItem_58 : decode cX4_cellsItem 58 = .ok (.invokevirtual 248, 3) := by decide +kernel
theorem dX4_cellsItem_61 : decode cX4_cellsItem 61 = .ok (.aload_n 0, 1) := by decide +kernel
theorem dX4_cellsItem_62 : decode cX4_cellsItem 62 = .ok (.getfield 211, 3) := by decide +kernel
theorem dX4_cellsItem_65 : decode cX4_cellsItem 65 = .ok (.istore 4, 2) := by decide +kernel
theorem dX4_cellsItem_67 : decode cX4_cellsItem 67 = .ok (.iload_n 2, 1) := by decide +kernel
theorem dX4_cellsItem_68 : decode cX4_cellsItem 68 = .ok (.istore 5, 2) := by decide +kernel
theorem dX4_cellsItem_70 : decode cX4_cellsItem 70 = .ok (.iload 5, 2) := by decide +kernel
theorem dX4_cellsItem_72 : decode cX4_cellsItem 72 = .ok (.iload 4, 2) := by decide +kernel
theorem dX4_cellsItem_74 : decode cX4_cellsItem 74 = .ok (.if_icmp .gt 26, 3) := by decide +kernel
theorem dX4_cellsItem_77 : decode cX4_cellsItem 77 = .ok (.aload_n 0, 1) := by decide +kernel
theorem dX4_cellsItem_78 : decode cX4_cellsItem 78 = .ok (.getfield 200, 3) := by decide +kernel
theorem dX4_cellsItem_81 : decode cX4_cellsItem 81 = .ok (.ifCond .ne 19, 3) := by decide +kernel
theorem dX4_cellsItem_84 : decode cX4_cellsItem 84 = .ok (.aload_n 0, 1) := by decide +kernel
theorem dX4_cellsItem_85 : decode cX4_cellsItem 85 = .ok (.getfield 7, 3) := by decide +kernel
theorem dX4_cellsItem_88 : decode cX4_cellsItem 88 = .ok (.iload_n 1, 1) := by decide +kernel
theorem dX4_cellsItem_89 : decode cX4_cellsItem 89 = .ok (.iload 5, 2) := by decide +kernel
theorem dX4_cellsItem_91 : decode cX4_cellsItem 91 = .ok (.iadd, 1) := by decide +kernel
theorem dX4_cellsItem_92 : decode cX4_cellsItem 92 = .ok (.iload_n 3, 1) := by decide +kernel
theorem dX4_cellsItem_93 : decode cX4_cellsItem 93 = .ok (.iastore, 1) := by decide +kernel
theorem dX4_cellsItem_94 : decode cX4_cellsItem 94 = .ok (.iinc 5 1, 3) := by decide +kernel
theorem dX4_cellsItem_97 : decode cX4_cellsItem 97 = .ok (.goto (-27), 3) := by decide +kernel
theorem dX4_cellsItem_100 : decode cX4_cellsItem 100 = .ok (.return_, 1) := by decide +kernel
theorem dX4_item_0 : decode cX4_item 0 = .ok (.aload_n 0, 1) := by decide +kernel
theorem dX4_item_1 : decode cX4_item 1 = .ok (.invokevirtual 258, 3) := by decide +kernel
theorem dX4_item_4 : decode cX4_item 4 = .ok (.istore_n 1, 1) := by decide +kernel
theorem dX4_item_5 : decode cX4_item 5 = .ok (.aload_n 0, 1) := by decide +kernel
theorem dX4_item_6 : decode cX4_item 6 = .ok (.invokevirtual 218, 3) := by decide +kernel
theorem dX4_item_9 : decode cX4_item 9 = .ok (.lstore_n 2, 1) := by decide +kernel
theorem dX4_item_10 : decode cX4_item 10 = .ok (.iload_n 1, 1) := by decide +kernel
theorem dX4_item_11 : decode cX4_item 11 = .ok (.ifCond .lt 11, 3) := by decide +kernel
theorem dX4_item_14 : decode cX4_item 14 = .ok (.aload_n 0, 1) := by decide +kernel
theorem dX4_item_15 : decode cX4_item 15 = .ok (.iload_n 1, 1) := by decide +kernel
theorem dX4_item_16 : decode cX4_item 16 = .ok (.invokevirtual 261, 3) := by decide +kernel
theorem dX4_item_19 : decode cX4_item 19 = .ok (.goto 90, 3) := by decide +kernel
theorem dX4_item_22 : decode cX4_item 22 = .ok (.lload_n 2, 1) := by decide +kernel
theorem dX4_item_23 : decode cX4_item 23 = .ok (.ldc2_w 264, 3) := by decide +kernel
theorem dX4_item_26 : decode cX4_item 26 = .ok (.lcmp, 1) := by decide +kernel
theorem dX4_item_27 : decode cX4_item 27 = .ok (.ifCond .eq 11, 3) := by decide +kernel
theorem dX4_item_30 : decode cX4_item 30 = .ok (.lload_n 2, 1) := by decide +kernel
theorem dX4_item_31 : decode cX4_item 31 = .ok (.ldc2_w 266, 3) := by decide +kernel
theorem dX4_item_34 : decode cX4_item 34 = .ok (.lcmp, 1) := by decide +kernel
theorem dX4_item_35 : decode cX4_item 35 = .ok (.ifCond .ne 24, 3) := by decide +kernel
theorem dX4_item_38 : decode cX4_item 38 = .ok (.aload_n 0, 1) := by decide +kernel
theorem dX4_item_39 : decode cX4_item 39 = .ok (.lload_n 2, 1) := by decide +kernel
theorem dX4_item_40 : decode cX4_item 40 = .ok (.ldc2_w 264, 3) := by decide +kernel
theorem dX4_item_43 : decode cX4_item 43 = .ok (.lcmp, 1) := by decide +kernel
theorem dX4_item_44 : decode cX4_item 44 = .ok (.ifCond .ne 7, 3) := by decide +kernel
theorem dX4_item_47 : decode cX4_item 47 = .ok (.iconst 3, 1) := by decide +kernel
theorem dX4_item_48 : decode cX4_item 48 = .ok (.goto 5, 3) := by decide +kernel
theorem dX4_item_51 : decode cX4_item 51 = .ok (.bipush 51, 2) := by decide +kernel
theorem dX4_item_53 : decode cX4_item 53 = .ok (.invokevirtual 268, 3) := by decide +kernel
theorem dX4_item_56 : decode cX4_item 56 = .ok (.goto 53, 3) := by decide +kernel
theorem dX4_item_59 : decode cX4_item 59 = .ok (.aload_n 0, 1) := by decide +kernel
theorem dX4_item_60 : decode cX4_item 60 = .ok (.lload_n 2, 1) := by decide +kernel
theorem dX4_item_61 : decode cX4_item 61 = .ok (.ldc2_w 271, 3) := by decide +kernel
theorem dX4_item_64 : decode cX4_item 64 = .ok (.lcmp, 1) := by decide +kernel
theorem dX4_item_65 : decode cX4_item 65 = .ok (.ifCond .ne 7, 3) := by decide +kernel
theorem dX4_item_68 : decode cX4_item 68 = .ok (.iconst 1, 1) := by decide +kernel
theorem dX4_item_69 : decode cX4_item 69 = .ok (.goto 4, 3) := by decide +kernel
theorem dX4_item_72 : decode cX4_item 72 = .ok (.iconst 0, 1) := by decide +kernel
theorem dX4_item_73 : decode cX4_item 73 = .ok (.invokevirtual 214, 3) := by decide +kernel
theorem dX4_item_76 : decode cX4_item 76 = .ok (.aload_n 0, 1) := by decide +kernel
theorem dX4_item_77 : decode cX4_item 77 = .ok (.iconst 0, 1) := by decide +kernel
theorem dX4_item_78 : decode cX4_item 78 = .ok (.bipush 20, 2) := by decide +kernel
theorem dX4_item_80 : decode cX4_item 80 = .ok (.invokevirtual 248, 3) := by decide +kernel
theorem dX4_item_83 : decode cX4_item 83 = .ok (.aload_n 0, 1) := by decide +kernel
theorem dX4_item_84 : decode cX4_item 84 = .ok (.getfield 7, 3) := by decide +kernel
theorem dX4_item_87 : decode cX4_item 87 = .ok (.iconst 2, 1) := by decide +kernel
theorem dX4_item_88 : decode cX4_item 88 = .ok (.aload_n 0, 1) := by decide +kernel
theorem dX4_item_89 : decode cX4_item 89 = .ok (.getfield 200, 3) := by decide +kernel
theorem dX4_item_92 : decode cX4_item 92 = .ok (.ifCond .eq 12, 3) := by decide +kernel
theorem dX4_item_95 : decode cX4_item 95 = .ok (.aload_n 0, 1) := by decide +kernel
theorem dX4_item_96 : decode cX4_item 96 = .ok (.getfield 7, 3) := by decide +kernel
theorem dX4_item_99 : decode cX4_item 99 = .ok (.iconst 2, 1) := by decide +kernel
theorem dX4_item_100 : decode cX4_item 100 = .ok (.iaload, 1) := by decide +kernel
theorem dX4_item_101 : decode cX4_item 101 = .ok (.goto 7, 3) := by decide +kernel
theorem dX4_item_104 : decode cX4_item 104 = .ok (.aload_n 0, 1) := by decide +kernel
theorem dX4_item_105 : decode cX4_item 105 = .ok (.getfield 211, 3) := by decide +kernel
theorem dX4_item_108 : decode cX4_item 108 = .ok (.iastore, 1) := by decide +kernel
theorem dX4_item_109 : decode cX4_item 109 = .ok (.return_, 1) := by decide +kernel
theorem dX4_map_0 : decode cX4_map 0 = .ok (.aload_n 0, 1) := by decide +kernel
theorem dX4_map_1 : decode cX4_map 1 = .ok (.invokevirtual 162, 3) := by decide +kernel
theorem dX4_map_4 : decode cX4_map 4 = .ok (.aload_n 0, 1) := by decide +kernel
theorem dX4_map_5 : decode cX4_map 5 = .ok (.iconst 0, 1) := by decide +kernel
theorem dX4_map_6 : decode cX4_map 6 = .ok (.putfield 200, 3) := by decide +kernel
theorem dX4_map_9 : decode cX4_map 9 = .ok (.aload_n 0, 1) := by decide +kernel
theorem dX4_map_10 : decode cX4_map 10 = .ok (.iconst 0, 1) := by decide +kernel
theorem dX4_map_11 : decode cX4_map 11 = .ok (.putfield 185, 3) := by decide +kernel
theorem dX4_map_14 : decode cX4_map 14 = .ok (.aload_n 0, 1) := by decide +kernel
theorem dX4_map_15 : decode cX4_map 15 = .ok (.invokevirtual 204, 3) := by decide +kernel
theorem dX4_map_18 : decode cX4_map 18 = .ok (.iconst 1, 1) := by decide +kernel
theorem dX4_map_19 : decode cX4_map 19 = .ok (.istore_n 1, 1) := by decide +kernel
theorem dX4_map_20 : decode cX4_map 20 = .ok (.aload_n 0, 1) := by decide +kernel
theorem dX4_map_21 : decode cX4_map 21 = .ok (.invokevirtual 273, 3) := by decide +kernel
theorem dX4_map_24 : decode cX4_map 24 = .ok (.aload_n 0, 1) := by decide +kernel
theorem dX4_map_25 : decode cX4_map 25 = .ok (.getfield 200, 3) := by decide +kernel
theorem dX4_map_28 : decode cX4_map 28 = .ok (.ifCond .ne 31, 3) := by decide +kernel
theorem dX4_map_31 : decode cX4_map 31 = .ok (.aload_n 0, 1) := by decide +kernel
theorem dX4_map_32 : decode cX4_map 32 = .ok (.aload_n 0, 1) := by decide +kernel
theorem dX4_map_33 : decode cX4_map 33 = .ok (.getfield 188, 3) := by decide +kernel
theorem dX4_map_36 : decode cX4_map 36 = .ok (.invokevirtual 191, 3) := by decide +kernel
theorem dX4_map_39 : decode cX4_map 39 = .ok (.bipush 59, 2) := by decide +kernel
theorem dX4_map_41 : decode cX4_map 41 = .ok (.if_icmp .ne 18, 3) := by decide +kernel
theorem dX4_map_44 : decode cX4_map 44 = .ok (.aload_n 0, 1) := by decide +kernel
theorem dX4_map_45 : decode cX4_map 45 = .ok (.iconst 1, 1) := by decide +kernel
theorem dX4_map_46 : decode cX4_map 46 = .ok (.invokevirtual 214, 3) := by decide +kernel
theorem dX4_map_49 : decode cX4_map 49 = .ok (.aload_n 0, 1) := by decide +kernel
theorem dX4_map_50 : decode cX4_map 50 = .ok (.invokevirtual 273, 3) := by decide +kernel
theorem dX4_map_53 : decode cX4_map 53 = .ok (.iinc 1 1, 3) := by decide +kernel
theorem dX4_map_56 : decode cX4_map 56 = .ok (.goto (-32), 3) := by decide +kernel
theorem dX4_map_59 : decode cX4_map 59 = .ok (.aload_n 0, 1) := by decide +kernel
theorem dX4_map_60 : decode cX4_map 60 = .ok (.aload_n 0, 1) := by decide +kernel
theorem dX4_map_61 : decode cX4_map 61 = .ok (.getfield 200, 3) := by decide +kernel
theorem dX4_map_64 : decode cX4_map 64 = .ok (.ifCond .ne 14, 3) := by decide +kernel
theorem dX4_map_67 : decode cX4_map 67 = .ok (.aload_n 0, 1) := by decide +kernel
theorem dX4_map_68 : decode cX4_map 68 = .ok (.getfield 188, 3) := by decide +kernel
theorem dX4_map_71 : decode cX4_map 71 = .ok (.aload_n 0, 1) := by decide +kernel
theorem dX4_map_72 : decode cX4_map 72 = .ok (.getfield 174, 3) := by decide +kernel
theorem dX4_map_75 : decode cX4_map 75 = .ok (.if_icmp .ge 7, 3) := by decide +kernel
theorem dX4_map_78 : decode cX4_map 78 = .ok (.iconst 1, 1) := by decide +kernel
theorem dX4_map_79 : decode cX4_map 79 = .ok (.goto 4, 3) := by decide +kernel
theorem dX4_map_82 : decode cX4_map 82 = .ok (.iconst 0, 1) := by decide +kernel
theorem dX4_map_83 : decode cX4_map 83 = .ok (.putfield 200, 3) := by decide +kernel
theorem dX4_map_86 : decode cX4_map 86 = .ok (.aload_n 0, 1) := by decide +kernel
theorem dX4_map_87 : decode cX4_map 87 = .ok (.getfield 200, 3) := by decide +kernel
theorem dX4_map_90 : decode cX4_map 90 = .ok (.ifCond .eq 7, 3) := by decide +kernel
theorem dX4_map_93 : decode cX4_map 93 = .ok (.aload_n 0, 1) := by decide +kernel
theorem dX4_map_94 : decode cX4_map 94 = .ok (.invokevirtual 165, 3) := by decide +kernel
theorem dX4_map_97 : decode cX4_map 97 = .ok (.aload_n 0, 1) := by decide +kernel
theorem dX4_map_98 : decode cX4_map 98 = .ok (.iconst 0, 1) := by decide +kernel
theorem dX4_map_99 : decode cX4_map 99 = .ok (.putfield 174, 3) := by decide +kernel
theorem dX4_map_102 : decode cX4_map 102 = .ok (.aload_n 0, 1) := by decide +kernel
theorem dX4_map_103 : decode cX4_map 103 = .ok (.getfield 200, 3) := by decide +kernel
theorem dX4_map_106 : decode cX4_map 106 = .ok (.ifCond .eq 12, 3) := by decide +kernel
theorem dX4_map_109 : decode cX4_map 109 = .ok (.iconst (-1), 1) := by decide +kernel
theorem dX4_map_110 : decode cX4_map 110 = .ok (.aload_n 0, 1) := by decide +kernel
theorem dX4_map_111 : decode cX4_map 111 = .ok (.getfield 188, 3) := by decide +kernel
theorem dX4_map_114 : decode cX4_map 114 = .ok (.isub, 1) := by decide +kernel
theorem dX4_map_115 : decode cX4_map 115 = .ok (.goto 4, 3) := by decide +kernel
theorem dX4_map_118 : decode cX4_map 118 = .ok (.iload_n 1, 1) := by decide +kernel
theorem dX4_map_119 : decode cX4_map 119 = .ok (.ireturn, 1) := by decide +kernel
theorem dX4_isOne_0 : decode cX4_isOne 0 = .ok (.iload_n 0, 1) := by decide +kernel
theorem dX4_isOne_1 : decode cX4_isOne 1 = .ok (.i2l, 1) := by decide +kernel
theorem dX4_isOne_2 : decode cX4_isOne 2 = .ok (.lconst 0, 1) := by decide +kernel
theorem dX4_isOne_3 : decode cX4_isOne 3 = .ok (.ldc2_w 276, 3) := by decide +kernel
theorem dX4_isOne_6 : decode cX4_isOne 6 = .ok (.invokestatic 51, 3) := by decide +kernel
theorem dX4_isOne_9 : decode cX4_isOne 9 = .ok (.ireturn, 1) := by decide +kernel
theorem dX4_sheet_0 : decode cX4_sheet 0 = .ok (.iload_n 1, 1) := by decide +kernel
theorem dX4_sheet_1 : decode cX4_sheet 1 = .ok (.invokestatic 278, 3) := by decide +kernel
theorem dX4_sheet_4 : decode cX4_sheet 4 = .ok (.ifCond .eq 25, 3) := by decide +kernel
theorem dX4_sheet_7 : decode cX4_sheet 7 = .ok (.iload_n 2, 1) := by decide +kernel
theorem dX4_sheet_8 : decode cX4_sheet 8 = .ok (.ifCond .eq 28, 3) := by decide +kernel
theorem dX4_sheet_11 : decode cX4_sheet 11 = .ok (.iload_n 2, 1) := by decide +kernel
theorem dX4_sheet_12 : decode cX4_sheet 12 = .ok (.bipush 8, 2) := by decide +kernel
theorem dX4_sheet_14 : decode cX4_sheet 14 = .ok (.if_icmp .eq 22, 3) := by decide +kernel
theorem dX4_sheet_17 : decode cX4_sheet 17 = .ok (.iload_n 2, 1) := by decide +kernel
theorem dX4_sheet_18 : decode cX4_sheet 18 = .ok (.bipush 16, 2) := by decide +kernel
theorem dX4_sheet_20 : decode cX4_sheet 20 = .ok (.if_icmp .eq 16, 3) := by decide +kernel
theorem dX4_sheet_23 : decode cX4_sheet 23 = .ok (.iload_n 2, 1) := by decide +kernel
theorem dX4_sheet_24 : decode cX4_sheet 24 = .ok (.bipush 64, 2) := by decide +kernel
theorem dX4_sheet_26 : decode cX4_sheet 26 = .ok (.if_icmp .eq 10, 3) := by decide +kernel
theorem dX4_sheet_29 : decode cX4_sheet 29 = .ok (.aload_n 0, 1) := by decide +kernel
theorem dX4_sheet_30 : decode cX4_sheet 30 = .ok (.ldc 48, 2) := by decide +kernel
theorem dX4_sheet_32 : decode cX4_sheet 32 = .ok (.invokevirtual 74, 3) := by decide +kernel
theorem dX4_sheet_35 : decode cX4_sheet 35 = .ok (.ireturn, 1) := by decide +kernel
theorem dX4_sheet_36 : decode cX4_sheet 36 = .ok (.iload_n 3, 1) := by decide +kernel
theorem dX4_sheet_37 : decode cX4_sheet 37 = .ok (.ifCond .ge 11, 3) := by decide +kernel
theorem dX4_sheet_40 : decode cX4_sheet 40 = .ok (.aload_n 0, 1) := by decide +kernel
theorem dX4_sheet_41 : decode cX4_sheet 41 = .ok (.ldc_w 281, 3) := by decide +kernel
theorem dX4_sheet_44 : decode cX4_sheet 44 = .ok (.invokevirtual 74, 3) := by decide +kernel
theorem dX4_sheet_47 : decode cX4_sheet 47 = .ok (.ireturn, 1) := by decide +kernel
theorem dX4_sheet_48 : decode cX4_sheet 48 = .ok (.iload_n 3, 1) := by decide +kernel
theorem dX4_sheet_49 : decode cX4_sheet 49 = .ok (.bipush 40, 2) := by decide +kernel
theorem dX4_sheet_51 : decode cX4_sheet 51 = .ok (.if_icmp .le 10, 3) := by decide +kernel
theorem dX4_sheet_54 : decode cX4_sheet 54 = .ok (.aload_n 0, 1) := by decide +kernel
theorem dX4_sheet_55 : decode cX4_sheet 55 = .ok (.ldc 48, 2) := by decide +kernel
theorem dX4_sheet_57 : decode cX4_sheet 57 = .ok (.invokevirtual 74, 3) := by decide +kernel
theorem dX4_sheet_60 : decode cX4_sheet 60 = .ok (.ireturn, 1) := by decide +kernel
theorem dX4_sheet_61 : decode cX4_sheet 61 = .ok (.aload_n 0, 1) := by decide +kernel
theorem dX4_sheet_62 : decode cX4_sheet 62 = .ok (.getfield 35, 3) := by decide +kernel
theorem dX4_sheet_65 : decode cX4_sheet 65 = .ok (.iload_n 1, 1) := by decide +kernel
theorem dX4_sheet_66 : decode cX4_sheet 66 = .ok (.iload_n 2, 1) := by decide +kernel
theorem dX4_sheet_67 : decode cX4_sheet 67 = .ok (.iastore, 1) := by decide +kernel
theorem dX4_sheet_68 : decode cX4_sheet 68 = .ok (.aload_n 0, 1) := by decide +kernel
theorem dX4_sheet_69 : decode cX4_sheet 69 = .ok (.getfield 38, 3) := by decide +kernel
theorem dX4_sheet_72 : decode cX4_sheet 72 = .ok (.iload_n 1, 1) := by decide +kernel
theorem dX4_sheet_73 : decode cX4_sheet 73 = .ok (.iload_n 2, 1) := by decide +kernel
theorem dX4_sheet_74 : decode cX4_sheet 74 = .ok (.ifCond .ne 7, 3) := by decide +kernel
theorem dX4_sheet_77 : decode cX4_sheet 77 = .ok (.iconst 0, 1) := by decide +kernel
theorem dX4_sheet_78 : decode cX4_sheet 78 = .ok (.goto 4, 3) := by decide +kernel
theorem dX4_sheet_81 : decode cX4_sheet 81 = .ok (.iload_n 3, 1) := by decide +kernel
theorem dX4_sheet_82 : decode cX4_sheet 82 = .ok (.iastore, 1) := by decide +kernel
theorem dX4_sheet_83 : decode cX4_sheet 83 = .ok (.iconst 0, 1) := by decide +kernel
theorem dX4_sheet_84 : decode cX4_sheet 84 = .ok (.istore 4, 2) := by decide +kernel
theorem dX4_sheet_86 : decode cX4_sheet 86 = .ok (.iload 4, 2) := by decide +kernel
theorem dX4_sheet_88 : decode cX4_sheet 88 = .ok (.bipush 40, 2) := by decide +kernel
theorem dX4_sheet_90 : decode cX4_sheet 90 = .ok (.if_icmp .ge 22, 3) := by decide +kernel
theorem dX4_sheet_93 : decode cX4_sheet 93 = .ok (.aload_n 0, 1) := by decide +kernel
theorem dX4_sheet_94 : decode cX4_sheet 94 = .ok (.getfield 41, 3) := by decide +kernel
theorem dX4_sheet_97 : decode cX4_sheet 97 = .ok (.bipush 40, 2) := by decide +kernel
theorem dX4_sheet_99 : decode cX4_sheet 99 = .ok (.iload_n 1, 1) := by decide +kernel
theorem dX4_sheet_100 : decode cX4_sheet 100 = .ok (.imul, 1) := by decide +kernel
theorem dX4_sheet_101 : decode cX4_sheet 101 = .ok (.iload 4, 2) := by decide +kernel
theorem dX4_sheet_103 : decode cX4_sheet 103 = .ok (.iadd, 1) := by decide +kernel
theorem dX4_sheet_104 : decode cX4_sheet 104 = .ok (.lconst 0, 1) := by decide +kernel
theorem dX4_sheet_105 : decode cX4_sheet 105 = .ok (.lastore, 1) := by decide +kernel
theorem dX4_sheet_106 : decode cX4_sheet 106 = .ok (.iinc 4 1, 3) := by decide +kernel
theorem dX4_sheet_109 : decode cX4_sheet 109 = .ok (.goto (-23), 3) := by decide +kernel
theorem dX4_sheet_112 : decode cX4_sheet 112 = .ok (.aload_n 0, 1) := by decide +kernel
theorem dX4_sheet_113 : decode cX4_sheet 113 = .ok (.getfield 38, 3) := by decide +kernel
theorem dX4_sheet_116 : decode cX4_sheet 116 = .ok (.iload_n 1, 1) := by decide +kernel
theorem dX4_sheet_117 : decode cX4_sheet 117 = .ok (.iaload, 1) := by decide +kernel
theorem dX4_sheet_118 : decode cX4_sheet 118 = .ok (.ireturn, 1) := by decide +kernel
theorem dX4_narrowed_0 : decode cX4_narrowed 0 = .ok (.iload_n 0, 1) := by decide +kernel
theorem dX4_narrowed_1 : decode cX4_narrowed 1 = .ok (.bipush 8, 2) := by decide +kernel
theorem dX4_narrowed_3 : decode cX4_narrowed 3 = .ok (.if_icmp .ne 10, 3) := by decide +kernel
theorem dX4_narrowed_6 : decode cX4_narrowed 6 = .ok (.lload_n 1, 1) := by decide +kernel
theorem dX4_narrowed_7 : decode cX4_narrowed 7 = .ok (.l2i, 1) := by decide +kernel
theorem dX4_narrowed_8 : decode cX4_narrowed 8 = .ok (.i2b, 1) := by decide +kernel
theorem dX4_narrowed_9 : decode cX4_narrowed 9 = .ok (.i2l, 1) := by decide +kernel
theorem dX4_narrowed_10 : decode cX4_narrowed 10 = .ok (.goto 17, 3) := by decide +kernel
theorem dX4_narrowed_13 : decode cX4_narrowed 13 = .ok (.iload_n 0, 1) := by decide +kernel
theorem dX4_narrowed_14 : decode cX4_narrowed 14 = .ok (.bipush 16, 2) := by decide +kernel
theorem dX4_narrowed_16 : decode cX4_narrowed 16 = .ok (.if_icmp .ne 10, 3) := by decide +kernel
theorem dX4_narrowed_19 : decode cX4_narrowed 19 = .ok (.lload_n 1, 1) := by decide +kernel
theorem dX4_narrowed_20 : decode cX4_narrowed 20 = .ok (.l2i, 1) := by decide +kernel
theorem dX4_narrowed_21 : decode cX4_narrowed 21 = .ok (.i2s, 1) := by decide +kernel
theorem dX4_narrowed_22 : decode cX4_narrowed 22 = .ok (.i2l, 1) := by decide +kernel
theorem dX4_narrowed_23 : decode cX4_narrowed 23 = .ok (.goto 4, 3) := by decide +kernel
theorem dX4_narrowed_26 : decode cX4_narrowed 26 = .ok (.lload_n 1, 1) := by decide +kernel
theorem dX4_narrowed_27 : decode cX4_narrowed 27 = .ok (.lreturn, 1) := by decide +kernel
theorem dX4_wrongSheet_0 : decode cX4_wrongSheet 0 = .ok (.iload_n 1, 1) := by decide +kernel
theorem dX4_wrongSheet_1 : decode cX4_wrongSheet 1 = .ok (.invokestatic 278, 3) := by decide +kernel
theorem dX4_wrongSheet_4 : decode cX4_wrongSheet 4 = .ok (.ifCond .ne 8, 3) := by decide +kernel
theorem dX4_wrongSheet_7 : decode cX4_wrongSheet 7 = .ok (.ldc 48, 2) := by decide +kernel
theorem dX4_wrongSheet_9 : decode cX4_wrongSheet 9 = .ok (.goto 19, 3) := by decide +kernel
theorem dX4_wrongSheet_12 : decode cX4_wrongSheet 12 = .ok (.aload_n 0, 1) := by decide +kernel
theorem dX4_wrongSheet_13 : decode cX4_wrongSheet 13 = .ok (.getfield 35, 3) := by decide +kernel
theorem dX4_wrongSheet_16 : decode cX4_wrongSheet 16 = .ok (.iload_n 1, 1) := by decide +kernel
theorem dX4_wrongSheet_17 : decode cX4_wrongSheet 17 = .ok (.iaload, 1) := by decide +kernel
theorem dX4_wrongSheet_18 : decode cX4_wrongSheet 18 = .ok (.ifCond .ne 9, 3) := by decide +kernel
theorem dX4_wrongSheet_21 : decode cX4_wrongSheet 21 = .ok (.ldc_w 282, 3) := by decide +kernel
theorem dX4_wrongSheet_24 : decode cX4_wrongSheet 24 = .ok (.goto 4, 3) := by decide +kernel
theorem dX4_wrongSheet_27 : decode cX4_wrongSheet 27 = .ok (.iconst 0, 1) := by decide +kernel
theorem dX4_wrongSheet_28 : decode cX4_wrongSheet 28 = .ok (.ireturn, 1) := by decide +kernel
theorem dX4_write_0 : decode cX4_write 0 = .ok (.aload_n 0, 1) := by decide +kernel
theorem dX4_write_1 : decode cX4_write 1 = .ok (.iload_n 1, 1) := by decide +kernel
theorem dX4_write_2 : decode cX4_write 2 = .ok (.invokevirtual 283, 3) := by decide +kernel
theorem dX4_write_5 : decode cX4_write 5 = .ok (.istore 5, 2) := by decide +kernel
theorem dX4_write_7 : decode cX4_write 7 = .ok (.iload 5, 2) := by decide +kernel
theorem dX4_write_9 : decode cX4_write 9 = .ok (.ifCond .eq 11, 3) := by decide +kernel
theorem dX4_write_12 : decode cX4_write 12 = .ok (.aload_n 0, 1) := by decide +kernel
theorem dX4_write_13 : decode cX4_write 13 = .ok (.iload 5, 2) := by decide +kernel
theorem dX4_write_15 : decode cX4_write 15 = .ok (.invokevirtual 74, 3) := by decide +kernel
theorem dX4_write_18 : decode cX4_write 18 = .ok (.i2l, 1) := by decide +kernel
theorem dX4_write_19 : decode cX4_write 19 = .ok (.lreturn, 1) := by decide +kernel
theorem dX4_write_20 : decode cX4_write 20 = .ok (.iload_n 2, 1) := by decide +kernel
theorem dX4_write_21 : decode cX4_write 21 = .ok (.i2l, 1) := by decide +kernel
theorem dX4_write_22 : decode cX4_write 22 = .ok (.lconst 0, 1) := by decide +kernel
theorem dX4_write_23 : decode cX4_write 23 = .ok (.aload_n 0, 1) := by decide +kernel
theorem dX4_write_24 : decode cX4_write 24 = .ok (.getfield 38, 3) := by decide +kernel
theorem dX4_write_27 : decode cX4_write 27 = .ok (.iload_n 1, 1) := by decide +kernel
theorem dX4_write_28 : decode cX4_write 28 = .ok (.iaload, 1) := by decide +kernel
theorem dX4_write_29 : decode cX4_write 29 = .ok (.iconst 1, 1) := by decide +kernel
theorem dX4_write_30 : decode cX4_write 30 = .ok (.isub, 1) := by decide +kernel
theorem dX4_write_31 : decode cX4_write 31 = .ok (.i2l, 1) := by decide +kernel
theorem dX4_write_32 : decode cX4_write 32 = .ok (.invokestatic 51, 3) := by decide +kernel
theorem dX4_write_35 : decode cX4_write 35 = .ok (.ifCond .ne 11, 3) := by decide +kernel
theorem dX4_write_38 : decode cX4_write 38 = .ok (.aload_n 0, 1) := by decide +kernel
theorem dX4_write_39 : decode cX4_write 39 = .ok (.ldc 48, 2) := by decide +kernel
theorem dX4_write_41 : decode cX4_write 41 = .ok (.invokevirtual 74, 3) := by decide +kernel
theorem dX4_write_44 : decode cX4_write 44 = .ok (.i2l, 1) := by decide +kernel
theorem dX4_write_45 : decode cX4_write 45 = .ok (.lreturn, 1) := by decide +kernel
theorem dX4_write_46 : decode cX4_write 46 = .ok (.aload_n 0, 1) := by decide +kernel
theorem dX4_write_47 : decode cX4_write 47 = .ok (.getfield 41, 3) := by decide +kernel
theorem dX4_write_50 : decode cX4_write 50 = .ok (.bipush 40, 2) := by decide +kernel
theorem dX4_write_52 : decode cX4_write 52 = .ok (.iload_n 1, 1) := by decide +kernel
theorem dX4_write_53 : decode cX4_write 53 = .ok (.imul, 1) := by decide +kernel
theorem dX4_write_54 : decode cX4_write 54 = .ok (.iload_n 2, 1) := by decide +kernel
theorem dX4_write_55 : decode cX4_write 55 = .ok (.iadd, 1) := by decide +kernel
theorem dX4_write_56 : decode cX4_write 56 = .ok (.laload, 1) := by decide +kernel
theorem dX4_write_57 : decode cX4_write 57 = .ok (.lstore 6, 2) := by decide +kernel
theorem dX4_write_59 : decode cX4_write 59 = .ok (.aload_n 0, 1) := by decide +kernel
theorem dX4_write_60 : decode cX4_write 60 = .ok (.getfield 41, 3) := by decide +kernel
theorem dX4_write_63 : decode cX4_write 63 = .ok (.bipush 40, 2) := by decide +kernel
theorem dX4_write_65 : decode cX4_write 65 = .ok (.iload_n 1, 1) := by decide +kernel
theorem dX4_write_66 : decode cX4_write 66 = .ok (.imul, 1) := by decide +kernel
theorem dX4_write_67 : decode cX4_write 67 = .ok (.iload_n 2, 1) := by decide +kernel
theorem dX4_write_68 : decode cX4_write 68 = .ok (.iadd, 1) := by decide +kernel
theorem dX4_write_69 : decode cX4_write 69 = .ok (.aload_n 0, 1) := by decide +kernel
theorem dX4_write_70 : decode cX4_write 70 = .ok (.getfield 35, 3) := by decide +kernel
theorem dX4_write_73 : decode cX4_write 73 = .ok (.iload_n 1, 1) := by decide +kernel
theorem dX4_write_74 : decode cX4_write 74 = .ok (.iaload, 1) := by decide +kernel
theorem dX4_write_75 : decode cX4_write 75 = .ok (.lload_n 3, 1) := by decide +kernel
theorem dX4_write_76 : decode cX4_write 76 = .ok (.invokestatic 286, 3) := by decide +kernel
theorem dX4_write_79 : decode cX4_write 79 = .ok (.lastore, 1) := by decide +kernel
theorem dX4_write_80 : decode cX4_write 80 = .ok (.lload 6, 2) := by decide +kernel
theorem dX4_write_82 : decode cX4_write 82 = .ok (.lreturn, 1) := by decide +kernel
theorem dX4_copy_0 : decode cX4_copy 0 = .ok (.iload_n 1, 1) := by decide +kernel
theorem dX4_copy_1 : decode cX4_copy 1 = .ok (.invokestatic 278, 3) := by decide +kernel
theorem dX4_copy_4 : decode cX4_copy 4 = .ok (.ifCond .eq 10, 3) := by decide +kernel
theorem dX4_copy_7 : decode cX4_copy 7 = .ok (.iload_n 3, 1) := by decide +kernel
theorem dX4_copy_8 : decode cX4_copy 8 = .ok (.invokestatic 278, 3) := by decide +kernel
theorem dX4_copy_11 : decode cX4_copy 11 = .ok (.ifCond .ne 10, 3) := by decide +kernel
theorem dX4_copy_14 : decode cX4_copy 14 = .ok (.aload_n 0, 1) := by decide +kernel
theorem dX4_copy_15 : decode cX4_copy 15 = .ok (.ldc 48, 2) := by decide +kernel
theorem dX4_copy_17 : decode cX4_copy 17 = .ok (.invokevirtual 74, 3) := by decide +kernel
theorem dX4_copy_20 : decode cX4_copy 20 = .ok (.ireturn, 1) := by decide +kernel
theorem dX4_copy_21 : decode cX4_copy 21 = .ok (.aload_n 0, 1) := by decide +kernel
theorem dX4_copy_22 : decode cX4_copy 22 = .ok (.getfield 35, 3) := by decide +kernel
theorem dX4_copy_25 : decode cX4_copy 25 = .ok (.iload_n 1, 1) := by decide +kernel
theorem dX4_copy_26 : decode cX4_copy 26 = .ok (.iaload, 1) := by decide +kernel
theorem dX4_copy_27 : decode cX4_copy 27 = .ok (.ifCond .eq 12, 3) := by decide +kernel
theorem dX4_copy_30 : decode cX4_copy 30 = .ok (.aload_n 0, 1) := by decide +kernel
theorem dX4_copy_31 : decode cX4_copy 31 = .ok (.getfield 35, 3) := by decide +kernel
theorem dX4_copy_34 : decode cX4_copy 34 = .ok (.iload_n 3, 1) := by decide +kernel
theorem dX4_copy_35 : decode cX4_copy 35 = .ok (.iaload, 1) := by decide +kernel
theorem dX4_copy_36 : decode cX4_copy 36 = .ok (.ifCond .ne 11, 3) := by decide +kernel
theorem dX4_copy_39 : decode cX4_copy 39 = .ok (.aload_n 0, 1) := by decide +kernel
theorem dX4_copy_40 : decode cX4_copy 40 = .ok (.ldc_w 282, 3) := by decide +kernel
theorem dX4_copy_43 : decode cX4_copy 43 = .ok (.invokevirtual 74, 3) := by decide +kernel
theorem dX4_copy_46 : decode cX4_copy 46 = .ok (.ireturn, 1) := by decide +kernel
theorem dX4_copy_47 : decode cX4_copy 47 = .ok (.aload_n 0, 1) := by decide +kernel
theorem dX4_copy_48 : decode cX4_copy 48 = .ok (.getfield 35, 3) := by decide +kernel
theorem dX4_copy_51 : decode cX4_copy 51 = .ok (.iload_n 1, 1) := by decide +kernel
theorem dX4_copy_52 : decode cX4_copy 52 = .ok (.iaload, 1) := by decide +kernel
theorem dX4_copy_53 : decode cX4_copy 53 = .ok (.aload_n 0, 1) := by decide +kernel
theorem dX4_copy_54 : decode cX4_copy 54 = .ok (.getfield 35, 3) := by decide +kernel
theorem dX4_copy_57 : decode cX4_copy 57 = .ok (.iload_n 3, 1) := by decide +kernel
theorem dX4_copy_58 : decode cX4_copy 58 = .ok (.iaload, 1) := by decide +kernel
theorem dX4_copy_59 : decode cX4_copy 59 = .ok (.if_icmp .eq 10, 3) := by decide +kernel
theorem dX4_copy_62 : decode cX4_copy 62 = .ok (.aload_n 0, 1) := by decide +kernel
theorem dX4_copy_63 : decode cX4_copy 63 = .ok (.ldc 121, 2) := by decide +kernel
theorem dX4_copy_65 : decode cX4_copy 65 = .ok (.invokevirtual 74, 3) := by decide +kernel
theorem dX4_copy_68 : decode cX4_copy 68 = .ok (.ireturn, 1) := by decide +kernel
theorem dX4_copy_69 : decode cX4_copy 69 = .ok (.iload_n 2, 1) := by decide +kernel
theorem dX4_copy_70 : decode cX4_copy 70 = .ok (.ifCond .lt 40, 3) := by decide +kernel
theorem dX4_copy_73 : decode cX4_copy 73 = .ok (.iload 4, 2) := by decide +kernel
theorem dX4_copy_75 : decode cX4_copy 75 = .ok (.ifCond .lt 35, 3) := by decide +kernel
theorem dX4_copy_78 : decode cX4_copy 78 = .ok (.iload 5, 2) := by decide +kernel
theorem dX4_copy_80 : decode cX4_copy 80 = .ok (.ifCond .lt 30, 3) := by decide +kernel
theorem dX4_copy_83 : decode cX4_copy 83 = .ok (.iload 5, 2) := by decide +kernel
theorem dX4_copy_85 : decode cX4_copy 85 = .ok (.aload_n 0, 1) := by decide +kernel
theorem dX4_copy_86 : decode cX4_copy 86 = .ok (.getfield 38, 3) := by decide +kernel
theorem dX4_copy_89 : decode cX4_copy 89 = .ok (.iload_n 1, 1) := by decide +kernel
theorem dX4_copy_90 : decode cX4_copy 90 = .ok (.iaload, 1) := by decide +kernel
theorem dX4_copy_91 : decode cX4_copy 91 = .ok (.iload_n 2, 1) := by decide +kernel
theorem dX4_copy_92 : decode cX4_copy 92 = .ok (.isub, 1) := by decide +kernel
theorem dX4_copy_93 : decode cX4_copy 93 = .ok (.if_icmp .gt 17, 3) := by decide +kernel
theorem dX4_copy_96 : decode cX4_copy 96 = .ok (.iload 5, 2) := by decide +kernel
theorem dX4_copy_98 : decode cX4_copy 98 = .ok (.aload_n 0, 1) := by decide +kernel
theorem dX4_copy_99 : decode cX4_copy 99 = .ok (.getfield 38, 3) := by decide +kernel
theorem dX4_copy_102 : decode cX4_copy 102 = .ok (.iload_n 3, 1) := by decide +kernel
theorem dX4_copy_103 : decode cX4_copy 103 = .ok (.iaload, 1) := by decide +kernel
theorem dX4_copy_104 : decode cX4_copy 104 = .ok (.iload 4, 2) := by decide +kernel
theorem dX4_copy_106 : decode cX4_copy 106 = .ok (.isub, 1) := by decide +kernel
theorem dX4_copy_107 : decode cX4_copy 107 = .ok (.if_icmp .le 10, 3) := by decide +kernel
theorem dX4_copy_110 : decode cX4_copy 110 = .ok (.aload_n 0, 1) := by decide +kernel
theorem dX4_copy_111 : decode cX4_copy 111 = .ok (.ldc 48, 2) := by decide +kernel
theorem dX4_copy_113 : decode cX4_copy 113 = .ok (.invokevirtual 74, 3) := by decide +kernel
theorem dX4_copy_116 : decode cX4_copy 116 = .ok (.ireturn, 1) := by decide +kernel
theorem dX4_copy_117 : decode cX4_copy 117 = .ok (.iconst 0, 1) := by decide +kernel
theorem dX4_copy_118 : decode cX4_copy 118 = .ok (.istore 6, 2) := by decide +kernel
theorem dX4_copy_120 : decode cX4_copy 120 = .ok (.iload 6, 2) := by decide +kernel
theorem dX4_copy_122 : decode cX4_copy 122 = .ok (.iload 5, 2) := by decide +kernel
theorem dX4_copy_124 : decode cX4_copy 124 = .ok (.if_icmp .ge 30, 3) := by decide +kernel
theorem dX4_copy_127 : decode cX4_copy 127 = .ok (.aload_n 0, 1) := by decide +kernel
theorem dX4_copy_128 : decode cX4_copy 128 = .ok (.getfield 45, 3) := by decide +kernel
theorem dX4_copy_131 : decode cX4_copy 131 = .ok (.iload 6, 2) := by decide +kernel
theorem dX4_copy_133 : decode cX4_copy 133 = .ok (.aload_n 0, 1) := by decide +kernel
theorem dX4_copy_134 : decode cX4_copy 134 = .ok (.getfield 41, 3) := by decide +kernel
theorem dX4_copy_137 : decode cX4_copy 137 = .ok (.bipush 40, 2) := by decide +kernel
theorem dX4_copy_139 : decode cX4_copy 139 = .ok (.iload_n 1, 1) := by decide +kernel
theorem dX4_copy_140 : decode cX4_copy 140 = .ok (.imul, 1) := by decide +kernel
theorem dX4_copy_141 : decode cX4_copy 141 = .ok (.iload_n 2, 1) := by decide +kernel
theorem dX4_copy_142 : decode cX4_copy 142 = .ok (.iadd, 1) := by decide +kernel
theorem dX4_copy_143 : decode cX4_copy 143 = .ok (.iload 6, 2) := by decide +kernel
theorem dX4_copy_145 : decode cX4_copy 145 = .ok (.iadd, 1) := by decide +kernel
theorem dX4_copy_146 : decode cX4_copy 146 = .ok (.laload, 1) := by decide +kernel
theorem dX4_copy_147 : decode cX4_copy 147 = .ok (.lastore, 1) := by decide +kernel
theorem dX4_copy_148 : decode cX4_copy 148 = .ok (.iinc 6 1, 3) := by decide +kernel
theorem dX4_copy_151 : decode cX4_copy 151 = .ok (.goto (-31), 3) := by decide +kernel
theorem dX4_copy_154 : decode cX4_copy 154 = .ok (.iconst 0, 1) := by decide +kernel
theorem dX4_copy_155 : decode cX4_copy 155 = .ok (.istore 6, 2) := by decide +kernel
theorem dX4_copy_157 : decode cX4_copy 157 = .ok (.iload 6, 2) := by decide +kernel
theorem dX4_copy_159 : decode cX4_copy 159 = .ok (.iload 5, 2) := by decide +kernel
theorem dX4_copy_161 : decode cX4_copy 161 = .ok (.if_icmp .ge 31, 3) := by decide +kernel
theorem dX4_copy_164 : decode cX4_copy 164 = .ok (.aload_n 0, 1) := by decide +kernel
theorem dX4_copy_165 : decode cX4_copy 165 = .ok (.getfield 41, 3) := by decide +kernel
theorem dX4_copy_168 : decode cX4_copy 168 = .ok (.bipush 40, 2) := by decide +kernel
theorem dX4_copy_170 : decode cX4_copy 170 = .ok (.iload_n 3, 1) := by decide +kernel
theorem dX4_copy_171 : decode cX4_copy 171 = .ok (.imul, 1) := by decide +kernel
theorem dX4_copy_172 : decode cX4_copy 172 = .ok (.iload 4, 2) := by decide +kernel
theorem dX4_copy_174 : decode cX4_copy 174 = .ok (.iadd, 1) := by decide +kernel
theorem dX4_copy_175 : decode cX4_copy 175 = .ok (.iload 6, 2) := by decide +kernel
theorem dX4_copy_177 : decode cX4_copy 177 = .ok (.iadd, 1) := by decide +kernel
theorem dX4_copy_178 : decode cX4_copy 178 = .ok (.aload_n 0, 1) := by decide +kernel
theorem dX4_copy_179 : decode cX4_copy 179 = .ok (.getfield 45, 3) := by decide +kernel
theorem dX4_copy_182 : decode cX4_copy 182 = .ok (.iload 6, 2) := by decide +kernel
theorem dX4_copy_184 : decode cX4_copy 184 = .ok (.laload, 1) := by decide +kernel
theorem dX4_copy_185 : decode cX4_copy 185 = .ok (.lastore, 1) := by decide +kernel
theorem dX4_copy_186 : decode cX4_copy 186 = .ok (.iinc 6 1, 3) := by decide +kernel
theorem dX4_copy_189 : decode cX4_copy 189 = .ok (.goto (-32), 3) := by decide +kernel
theorem dX4_copy_192 : decode cX4_copy 192 = .ok (.iload 5, 2) := by decide +kernel
theorem dX4_copy_194 : decode cX4_copy 194 = .ok (.ireturn, 1) := by decide +kernel
theorem dX4_lays_0 : decode cX4_lays 0 = .ok (.aload_n 0, 1) := by decide +kernel
theorem dX4_lays_1 : decode cX4_lays 1 = .ok (.iload_n 1, 1) := by decide +kernel
theorem dX4_lays_2 : decode cX4_lays 2 = .ok (.invokevirtual 283, 3) := by decide +kernel
theorem dX4_lays_5 : decode cX4_lays 5 = .ok (.istore_n 2, 1) := by decide +kernel
theorem dX4_lays_6 : decode cX4_lays 6 = .ok (.iload_n 2, 1) := by decide +kernel
theorem dX4_lays_7 : decode cX4_lays 7 = .ok (.ifCond .eq 9, 3) := by decide +kernel
theorem dX4_lays_10 : decode cX4_lays 10 = .ok (.aload_n 0, 1) := by decide +kernel
theorem dX4_lays_11 : decode cX4_lays 11 = .ok (.iload_n 2, 1) := by decide +kernel
theorem dX4_lays_12 : decode cX4_lays 12 = .ok (.invokevirtual 74, 3) := by decide +kernel
theorem dX4_lays_15 : decode cX4_lays 15 = .ok (.ireturn, 1) := by decide +kernel
theorem dX4_lays_16 : decode cX4_lays 16 = .ok (.iconst 0, 1) := by decide +kernel
theorem dX4_lays_17 : decode cX4_lays 17 = .ok (.istore_n 3, 1) := by decide +kernel
theorem dX4_lays_18 : decode cX4_lays 18 = .ok (.iconst 0, 1) := by decide +kernel
theorem dX4_lays_19 : decode cX4_lays 19 = .ok (.istore 4, 2) := by decide +kernel
theorem dX4_lays_21 : decode cX4_lays 21 = .ok (.iload 4, 2) := by decide +kernel
theorem dX4_lays_23 : decode cX4_lays 23 = .ok (.aload_n 0, 1) := by decide +kernel
theorem dX4_lays_24 : decode cX4_lays 24 = .ok (.getfield 38, 3) := by decide +kernel
theorem dX4_lays_27 : decode cX4_lays 27 = .ok (.iload_n 1, 1) := by decide +kernel
theorem dX4_lays_28 : decode cX4_lays 28 = .ok (.iaload, 1) := by decide +kernel
theorem dX4_lays_29 : decode cX4_lays 29 = .ok (.if_icmp .ge 84, 3) := by decide +kernel
theorem dX4_lays_32 : decode cX4_lays 32 = .ok (.aload_n 0, 1) := by decide +kernel
theorem dX4_lays_33 : decode cX4_lays 33 = .ok (.getfield 41, 3) := by decide +kernel
theorem dX4_lays_36 : decode cX4_lays 36 = .ok (.bipush 40, 2) := by decide +kernel
theorem dX4_lays_38 : decode cX4_lays 38 = .ok (.iload_n 1, 1) := by decide +kernel
theorem dX4_lays_39 : decode cX4_lays 39 = .ok (.imul, 1) := by decide +kernel
theorem dX4_lays_40 : decode cX4_lays 40 = .ok (.iload 4, 2) := by decide +kernel
theorem dX4_lays_42 : decode cX4_lays 42 = .ok (.iadd, 1) := by decide +kernel
theorem dX4_lays_43 : decode cX4_lays 43 = .ok (.laload, 1) := by decide +kernel
theorem dX4_lays_44 : decode cX4_lays 44 = .ok (.lconst 0, 1) := by decide +kernel
theorem dX4_lays_45 : decode cX4_lays 45 = .ok (.ldc2_w 55, 3) := by decide +kernel
theorem dX4_lays_48 : decode cX4_lays 48 = .ok (.invokestatic 51, 3) := by decide +kernel
theorem dX4_lays_51 : decode cX4_lays 51 = .ok (.istore 5, 2) := by decide +kernel
theorem dX4_lays_53 : decode cX4_lays 53 = .ok (.aload_n 0, 1) := by decide +kernel
theorem dX4_lays_54 : decode cX4_lays 54 = .ok (.getfield 7, 3) := by decide +kernel
theorem dX4_lays_57 : decode cX4_lays 57 = .ok (.bipush 51, 2) := by decide +kernel
theorem dX4_lays_59 : decode cX4_lays 59 = .ok (.iload 4, 2) := by decide +kernel
theorem dX4_lays_61 : decode cX4_lays 61 = .ok (.iadd, 1) := by decide +kernel
theorem dX4_lays_62 : decode cX4_lays 62 = .ok (.iload 5, 2) := by decide +kernel
theorem dX4_lays_64 : decode cX4_lays 64 = .ok (.ifCond .eq 19, 3) := by decide +kernel
theorem dX4_lays_67 : decode cX4_lays 67 = .ok (.aload_n 0, 1) := by decide +kernel
theorem dX4_lays_68 : decode cX4_lays 68 = .ok (.getfield 41, 3) := by decide +kernel
theorem dX4_lays_71 : decode cX4_lays 71 = .ok (.bipush 40, 2) := by decide +kernel
theorem dX4_lays_73 : decode cX4_lays 73 = .ok (.iload_n 1, 1) := by decide +kernel
theorem dX4_lays_74 : decode cX4_lays 74 = .ok (.imul, 1) := by decide +kernel
theorem dX4_lays_75 : decode cX4_lays 75 = .ok (.iload 4, 2) := by decide +kernel
theorem dX4_lays_77 : decode cX4_lays 77 = .ok (.iadd, 1) := by decide +kernel
theorem dX4_lays_78 : decode cX4_lays 78 = .ok (.laload, 1) := by decide +kernel
theorem dX4_lays_79 : decode cX4_lays 79 = .ok (.l2i, 1) := by decide +kernel
theorem dX4_lays_80 : decode cX4_lays 80 = .ok (.goto 13, 3) := by decide +kernel
theorem dX4_lays_83 : decode cX4_lays 83 = .ok (.aload_n 0, 1) := by decide +kernel
theorem dX4_lays_84 : decode cX4_lays 84 = .ok (.getfield 7, 3) := by decide +kernel
theorem dX4_lays_87 : decode cX4_lays 87 = .ok (.bipush 51, 2) := by decide +kernel
theorem dX4_lays_89 : decode cX4_lays 89 = .ok (.iload 4, 2) := by decide +kernel
theorem dX4_lays_91 : decode cX4_lays 91 = .ok (.iadd, 1) := by decide +kernel
theorem dX4_lays_92 : decode cX4_lays 92 = .ok (.iaload, 1) := by decide +kernel
theorem dX4_lays_93 : decode cX4_lays 93 = .ok (.iastore, 1) := by decide +kernel
theorem dX4_lays_94 : decode cX4_lays 94 = .ok (.iload_n 3, 1) := by decide +kernel
theorem dX4_lays_95 : decode cX4_lays 95 = .ok (.iload 5, 2) := by decide +kernel
theorem dX4_lays_97 : decode cX4_lays 97 = .ok (.ifCond .eq 7, 3) := by decide +kernel
theorem dX4_lays_100 : decode cX4_lays 100 = .ok (.iconst 1, 1) := by decide +kernel
theorem dX4_lays_101 : decode cX4_lays 101 = .ok (.goto 4, 3) := by decide +kernel
theorem dX4_lays_104 : decode cX4_lays 104 = .ok (.iconst 0, 1) := by decide +kernel
theorem dX4_lays_105 : decode cX4_lays 105 = .ok (.iadd, 1) := by decide +kernel
theorem dX4_lays_106 : decode cX4_lays 106 = .ok (.istore_n 3, 1) := by decide +kernel
theorem dX4_lays_107 : decode cX4_lays 107 = .ok (.iinc 4 1, 3) := by decide +kernel
theorem dX4_lays_110 : decode cX4_lays 110 = .ok (.goto (-89), 3) := by decide +kernel
theorem dX4_lays_113 : decode cX4_lays 113 = .ok (.iload_n 3, 1) := by decide +kernel
theorem dX4_lays_114 : decode cX4_lays 114 = .ok (.ireturn, 1) := by decide +kernel
theorem dX4_book_0 : decode cX4_book 0 = .ok (.aload_n 0, 1) := by decide +kernel
theorem dX4_book_1 : decode cX4_book 1 = .ok (.iload_n 1, 1) := by decide +kernel
theorem dX4_book_2 : decode cX4_book 2 = .ok (.invokevirtual 283, 3) := by decide +kernel
theorem dX4_book_5 : decode cX4_book 5 = .ok (.istore_n 2, 1) := by decide +kernel
theorem dX4_book_6 : decode cX4_book 6 = .ok (.iload_n 2, 1) := by decide +kernel
theorem dX4_book_7 : decode cX4_book 7 = .ok (.ifCond .eq 9, 3) := by decide +kernel
theorem dX4_book_10 : decode cX4_book 10 = .ok (.aload_n 0, 1) := by decide +kernel
theorem dX4_book_11 : decode cX4_book 11 = .ok (.iload_n 2, 1) := by decide +kernel
theorem dX4_book_12 : decode cX4_book 12 = .ok (.invokevirtual 74, 3) := by decide +kernel
theorem dX4_book_15 : decode cX4_book 15 = .ok (.ireturn, 1) := by decide +kernel
theorem dX4_book_16 : decode cX4_book 16 = .ok (.aload_n 0, 1) := by decide +kernel
theorem dX4_book_17 : decode cX4_book 17 = .ok (.invokevirtual 149, 3) := by decide +kernel
theorem dX4_book_20 : decode cX4_book 20 = .ok (.iconst 0, 1) := by decide +kernel
theorem dX4_book_21 : decode cX4_book 21 = .ok (.istore_n 3, 1) := by decide +kernel
theorem dX4_book_22 : decode cX4_book 22 = .ok (.iload_n 3, 1) := by decide +kernel
theorem dX4_book_23 : decode cX4_book 23 = .ok (.aload_n 0, 1) := by decide +kernel
theorem dX4_book_24 : decode cX4_book 24 = .ok (.getfield 38, 3) := by decide +kernel
theorem dX4_book_27 : decode cX4_book 27 = .ok (.iload_n 1, 1) := by decide +kernel
theorem dX4_book_28 : decode cX4_book 28 = .ok (.iaload, 1) := by decide +kernel
theorem dX4_book_29 : decode cX4_book 29 = .ok (.if_icmp .ge 38, 3) := by decide +kernel
theorem dX4_book_32 : decode cX4_book 32 = .ok (.aload_n 0, 1) := by decide +kernel
theorem dX4_book_33 : decode cX4_book 33 = .ok (.getfield 41, 3) := by decide +kernel
theorem dX4_book_36 : decode cX4_book 36 = .ok (.bipush 40, 2) := by decide +kernel
theorem dX4_book_38 : decode cX4_book 38 = .ok (.iload_n 1, 1) := by decide +kernel
theorem dX4_book_39 : decode cX4_book 39 = .ok (.imul, 1) := by decide +kernel
end
section
theorem dX4_book_40 : decode cX4_book 40 = .ok (.iload_n 3, 1) := by decide +kernel
theorem dX4_book_41 : decode cX4_book 41 = .ok (.iadd, 1) := by decide +kernel
theorem dX4_book_42 : decode cX4_book 42 = .ok (.aload_n 0, 1) := by decide +kernel
theorem dX4_book_43 : decode cX4_book 43 = .ok (.getfield 35, 3) := by decide +kernel
theorem dX4_book_46 : decode cX4_book 46 = .ok (.iload_n 1, 1) := by decide +kernel
theorem dX4_book_47 : decode cX4_book 47 = .ok (.iaload, 1) := by decide +kernel
theorem dX4_book_48 : decode cX4_book 48 = .ok (.aload_n 0, 1) := by decide +kernel
theorem dX4_book_49 : decode cX4_book 49 = .ok (.invokevirtual 131, 3) := by decide +kernel
theorem dX4_book_52 : decode cX4_book 52 = .ok (.i2l, 1) := by decide +kernel
theorem dX4_book_53 : decode cX4_book 53 = .ok (.invokestatic 286, 3) := by decide +kernel
theorem dX4_book_56 : decode cX4_book 56 = .ok (.lastore, 1) := by decide +kernel
theorem dX4_book_57 : decode cX4_book 57 = .ok (.aload_n 0, 1) := by decide +kernel
theorem dX4_book_58 : decode cX4_book 58 = .ok (.invokevirtual 135, 3) := by decide +kernel
theorem dX4_book_61 : decode cX4_book 61 = .ok (.iinc 3 1, 3) := by decide +kernel
theorem dX4_book_64 : decode cX4_book 64 = .ok (.goto (-42), 3) := by decide +kernel
theorem dX4_book_67 : decode cX4_book 67 = .ok (.aload_n 0, 1) := by decide +kernel
theorem dX4_book_68 : decode cX4_book 68 = .ok (.aload_n 0, 1) := by decide +kernel
theorem dX4_book_69 : decode cX4_book 69 = .ok (.getfield 38, 3) := by decide +kernel
theorem dX4_book_72 : decode cX4_book 72 = .ok (.iload_n 1, 1) := by decide +kernel
theorem dX4_book_73 : decode cX4_book 73 = .ok (.iaload, 1) := by decide +kernel
theorem dX4_book_74 : decode cX4_book 74 = .ok (.invokevirtual 152, 3) := by decide +kernel
theorem dX4_book_77 : decode cX4_book 77 = .ok (.ireturn, 1) := by decide +kernel
theorem dX4_isBook_0 : decode cX4_isBook 0 = .ok (.iconst 0, 1) := by decide +kernel
theorem dX4_isBook_1 : decode cX4_isBook 1 = .ok (.istore_n 2, 1) := by decide +kernel
theorem dX4_isBook_2 : decode cX4_isBook 2 = .ok (.iload_n 2, 1) := by decide +kernel
theorem dX4_isBook_3 : decode cX4_isBook 3 = .ok (.aload_n 0, 1) := by decide +kernel
theorem dX4_isBook_4 : decode cX4_isBook 4 = .ok (.getfield 38, 3) := by decide +kernel
theorem dX4_isBook_7 : decode cX4_isBook 7 = .ok (.iload_n 1, 1) := by decide +kernel
theorem dX4_isBook_8 : decode cX4_isBook 8 = .ok (.iaload, 1) := by decide +kernel
theorem dX4_isBook_9 : decode cX4_isBook 9 = .ok (.if_icmp .ge 35, 3) := by decide +kernel
theorem dX4_isBook_12 : decode cX4_isBook 12 = .ok (.aload_n 0, 1) := by decide +kernel
theorem dX4_isBook_13 : decode cX4_isBook 13 = .ok (.getfield 41, 3) := by decide +kernel
theorem dX4_isBook_16 : decode cX4_isBook 16 = .ok (.bipush 40, 2) := by decide +kernel
theorem dX4_isBook_18 : decode cX4_isBook 18 = .ok (.iload_n 1, 1) := by decide +kernel
theorem dX4_isBook_19 : decode cX4_isBook 19 = .ok (.imul, 1) := by decide +kernel
theorem dX4_isBook_20 : decode cX4_isBook 20 = .ok (.iload_n 2, 1) := by decide +kernel
theorem dX4_isBook_21 : decode cX4_isBook 21 = .ok (.iadd, 1) := by decide +kernel
theorem dX4_isBook_22 : decode cX4_isBook 22 = .ok (.laload, 1) := by decide +kernel
theorem dX4_isBook_23 : decode cX4_isBook 23 = .ok (.aload_n 0, 1) := by decide +kernel
theorem dX4_isBook_24 : decode cX4_isBook 24 = .ok (.invokevirtual 131, 3) := by decide +kernel
theorem dX4_isBook_27 : decode cX4_isBook 27 = .ok (.i2l, 1) := by decide +kernel
theorem dX4_isBook_28 : decode cX4_isBook 28 = .ok (.lcmp, 1) := by decide +kernel
theorem dX4_isBook_29 : decode cX4_isBook 29 = .ok (.ifCond .eq 5, 3) := by decide +kernel
theorem dX4_isBook_32 : decode cX4_isBook 32 = .ok (.iconst 0, 1) := by decide +kernel
theorem dX4_isBook_33 : decode cX4_isBook 33 = .ok (.ireturn, 1) := by decide +kernel
theorem dX4_isBook_34 : decode cX4_isBook 34 = .ok (.aload_n 0, 1) := by decide +kernel
theorem dX4_isBook_35 : decode cX4_isBook 35 = .ok (.invokevirtual 135, 3) := by decide +kernel
theorem dX4_isBook_38 : decode cX4_isBook 38 = .ok (.iinc 2 1, 3) := by decide +kernel
theorem dX4_isBook_41 : decode cX4_isBook 41 = .ok (.goto (-39), 3) := by decide +kernel
theorem dX4_isBook_44 : decode cX4_isBook 44 = .ok (.iconst 1, 1) := by decide +kernel
theorem dX4_isBook_45 : decode cX4_isBook 45 = .ok (.ireturn, 1) := by decide +kernel
theorem dX4_read_0 : decode cX4_read 0 = .ok (.aload_n 0, 1) := by decide +kernel
theorem dX4_read_1 : decode cX4_read 1 = .ok (.iload_n 1, 1) := by decide +kernel
theorem dX4_read_2 : decode cX4_read 2 = .ok (.invokevirtual 283, 3) := by decide +kernel
theorem dX4_read_5 : decode cX4_read 5 = .ok (.istore_n 3, 1) := by decide +kernel
theorem dX4_read_6 : decode cX4_read 6 = .ok (.iload_n 3, 1) := by decide +kernel
theorem dX4_read_7 : decode cX4_read 7 = .ok (.ifCond .ne 16, 3) := by decide +kernel
theorem dX4_read_10 : decode cX4_read 10 = .ok (.aload_n 0, 1) := by decide +kernel
theorem dX4_read_11 : decode cX4_read 11 = .ok (.iload_n 2, 1) := by decide +kernel
theorem dX4_read_12 : decode cX4_read 12 = .ok (.invokevirtual 109, 3) := by decide +kernel
theorem dX4_read_15 : decode cX4_read 15 = .ok (.ifCond .ne 8, 3) := by decide +kernel
theorem dX4_read_18 : decode cX4_read 18 = .ok (.ldc 48, 2) := by decide +kernel
theorem dX4_read_20 : decode cX4_read 20 = .ok (.goto 4, 3) := by decide +kernel
theorem dX4_read_23 : decode cX4_read 23 = .ok (.iload_n 3, 1) := by decide +kernel
theorem dX4_read_24 : decode cX4_read 24 = .ok (.istore_n 3, 1) := by decide +kernel
theorem dX4_read_25 : decode cX4_read 25 = .ok (.iload_n 3, 1) := by decide +kernel
theorem dX4_read_26 : decode cX4_read 26 = .ok (.ifCond .eq 9, 3) := by decide +kernel
theorem dX4_read_29 : decode cX4_read 29 = .ok (.aload_n 0, 1) := by decide +kernel
theorem dX4_read_30 : decode cX4_read 30 = .ok (.iload_n 3, 1) := by decide +kernel
theorem dX4_read_31 : decode cX4_read 31 = .ok (.invokevirtual 74, 3) := by decide +kernel
theorem dX4_read_34 : decode cX4_read 34 = .ok (.ireturn, 1) := by decide +kernel
theorem dX4_read_35 : decode cX4_read 35 = .ok (.aload_n 0, 1) := by decide +kernel
theorem dX4_read_36 : decode cX4_read 36 = .ok (.invokevirtual 149, 3) := by decide +kernel
theorem dX4_read_39 : decode cX4_read 39 = .ok (.iconst 0, 1) := by decide +kernel
theorem dX4_read_40 : decode cX4_read 40 = .ok (.istore 4, 2) := by decide +kernel
theorem dX4_read_42 : decode cX4_read 42 = .ok (.iconst 0, 1) := by decide +kernel
theorem dX4_read_43 : decode cX4_read 43 = .ok (.istore 5, 2) := by decide +kernel
theorem dX4_read_45 : decode cX4_read 45 = .ok (.iload 5, 2) := by decide +kernel
theorem dX4_read_47 : decode cX4_read 47 = .ok (.sipush 288, 3) := by decide +kernel
theorem dX4_read_50 : decode cX4_read 50 = .ok (.if_icmp .ge 61, 3) := by decide +kernel
theorem dX4_read_53 : decode cX4_read 53 = .ok (.aload_n 0, 1) := by decide +kernel
theorem dX4_read_54 : decode cX4_read 54 = .ok (.getfield 7, 3) := by decide +kernel
theorem dX4_read_57 : decode cX4_read 57 = .ok (.iload_n 2, 1) := by decide +kernel
theorem dX4_read_58 : decode cX4_read 58 = .ok (.iconst 0, 1) := by decide +kernel
theorem dX4_read_59 : decode cX4_read 59 = .ok (.invokestatic 57, 3) := by decide +kernel
theorem dX4_read_62 : decode cX4_read 62 = .ok (.iload 5, 2) := by decide +kernel
theorem dX4_read_64 : decode cX4_read 64 = .ok (.bipush 48, 2) := by decide +kernel
theorem dX4_read_66 : decode cX4_read 66 = .ok (.idiv, 1) := by decide +kernel
theorem dX4_read_67 : decode cX4_read 67 = .ok (.iastore, 1) := by decide +kernel
theorem dX4_read_68 : decode cX4_read 68 = .ok (.aload_n 0, 1) := by decide +kernel
theorem dX4_read_69 : decode cX4_read 69 = .ok (.getfield 7, 3) := by decide +kernel
theorem dX4_read_72 : decode cX4_read 72 = .ok (.iload_n 2, 1) := by decide +kernel
theorem dX4_read_73 : decode cX4_read 73 = .ok (.iconst 1, 1) := by decide +kernel
theorem dX4_read_74 : decode cX4_read 74 = .ok (.invokestatic 57, 3) := by decide +kernel
theorem dX4_read_77 : decode cX4_read 77 = .ok (.iload 5, 2) := by decide +kernel
theorem dX4_read_79 : decode cX4_read 79 = .ok (.bipush 48, 2) := by decide +kernel
theorem dX4_read_81 : decode cX4_read 81 = .ok (.irem, 1) := by decide +kernel
theorem dX4_read_82 : decode cX4_read 82 = .ok (.iastore, 1) := by decide +kernel
theorem dX4_read_83 : decode cX4_read 83 = .ok (.aload_n 0, 1) := by decide +kernel
theorem dX4_read_84 : decode cX4_read 84 = .ok (.iload 4, 2) := by decide +kernel
theorem dX4_read_86 : decode cX4_read 86 = .ok (.aload_n 0, 1) := by decide +kernel
theorem dX4_read_87 : decode cX4_read 87 = .ok (.iload_n 1, 1) := by decide +kernel
theorem dX4_read_88 : decode cX4_read 88 = .ok (.invokevirtual 290, 3) := by decide +kernel
theorem dX4_read_91 : decode cX4_read 91 = .ok (.ifCond .eq 7, 3) := by decide +kernel
theorem dX4_read_94 : decode cX4_read 94 = .ok (.iconst 1, 1) := by decide +kernel
theorem dX4_read_95 : decode cX4_read 95 = .ok (.goto 4, 3) := by decide +kernel
theorem dX4_read_98 : decode cX4_read 98 = .ok (.iconst 0, 1) := by decide +kernel
theorem dX4_read_99 : decode cX4_read 99 = .ok (.iadd, 1) := by decide +kernel
theorem dX4_read_100 : decode cX4_read 100 = .ok (.invokevirtual 152, 3) := by decide +kernel
theorem dX4_read_103 : decode cX4_read 103 = .ok (.istore 4, 2) := by decide +kernel
theorem dX4_read_105 : decode cX4_read 105 = .ok (.iinc 5 1, 3) := by decide +kernel
theorem dX4_read_108 : decode cX4_read 108 = .ok (.goto (-63), 3) := by decide +kernel
theorem dX4_read_111 : decode cX4_read 111 = .ok (.iload 4, 2) := by decide +kernel
theorem dX4_read_113 : decode cX4_read 113 = .ok (.ireturn, 1) := by decide +kernel
theorem dX4_image_0 : decode cX4_image 0 = .ok (.iconst 0, 1) := by decide +kernel
theorem dX4_image_1 : decode cX4_image 1 = .ok (.istore_n 1, 1) := by decide +kernel
theorem dX4_image_2 : decode cX4_image 2 = .ok (.iload_n 1, 1) := by decide +kernel
theorem dX4_image_3 : decode cX4_image 3 = .ok (.bipush 123, 2) := by decide +kernel
theorem dX4_image_5 : decode cX4_image 5 = .ok (.if_icmp .ge 21, 3) := by decide +kernel
theorem dX4_image_8 : decode cX4_image 8 = .ok (.aload_n 0, 1) := by decide +kernel
theorem dX4_image_9 : decode cX4_image 9 = .ok (.getfield 13, 3) := by decide +kernel
theorem dX4_image_12 : decode cX4_image 12 = .ok (.iload_n 1, 1) := by decide +kernel
theorem dX4_image_13 : decode cX4_image 13 = .ok (.aload_n 0, 1) := by decide +kernel
theorem dX4_image_14 : decode cX4_image 14 = .ok (.getfield 7, 3) := by decide +kernel
theorem dX4_image_17 : decode cX4_image 17 = .ok (.iload_n 1, 1) := by decide +kernel
theorem dX4_image_18 : decode cX4_image 18 = .ok (.iaload, 1) := by decide +kernel
theorem dX4_image_19 : decode cX4_image 19 = .ok (.iastore, 1) := by decide +kernel
theorem dX4_image_20 : decode cX4_image 20 = .ok (.iinc 1 1, 3) := by decide +kernel
theorem dX4_image_23 : decode cX4_image 23 = .ok (.goto (-21), 3) := by decide +kernel
theorem dX4_image_26 : decode cX4_image 26 = .ok (.aload_n 0, 1) := by decide +kernel
theorem dX4_image_27 : decode cX4_image 27 = .ok (.iconst 1, 1) := by decide +kernel
theorem dX4_image_28 : decode cX4_image 28 = .ok (.putfield 293, 3) := by decide +kernel
theorem dX4_image_31 : decode cX4_image 31 = .ok (.iconst 1, 1) := by decide +kernel
theorem dX4_image_32 : decode cX4_image 32 = .ok (.ireturn, 1) := by decide +kernel
theorem dX4_undo_0 : decode cX4_undo 0 = .ok (.aload_n 0, 1) := by decide +kernel
theorem dX4_undo_1 : decode cX4_undo 1 = .ok (.getfield 293, 3) := by decide +kernel
theorem dX4_undo_4 : decode cX4_undo 4 = .ok (.ifCond .ne 10, 3) := by decide +kernel
theorem dX4_undo_7 : decode cX4_undo 7 = .ok (.aload_n 0, 1) := by decide +kernel
theorem dX4_undo_8 : decode cX4_undo 8 = .ok (.ldc 158, 2) := by decide +kernel
theorem dX4_undo_10 : decode cX4_undo 10 = .ok (.invokevirtual 74, 3) := by decide +kernel
theorem dX4_undo_13 : decode cX4_undo 13 = .ok (.ireturn, 1) := by decide +kernel
theorem dX4_undo_14 : decode cX4_undo 14 = .ok (.iconst 0, 1) := by decide +kernel
theorem dX4_undo_15 : decode cX4_undo 15 = .ok (.istore_n 1, 1) := by decide +kernel
theorem dX4_undo_16 : decode cX4_undo 16 = .ok (.iload_n 1, 1) := by decide +kernel
theorem dX4_undo_17 : decode cX4_undo 17 = .ok (.bipush 123, 2) := by decide +kernel
theorem dX4_undo_19 : decode cX4_undo 19 = .ok (.if_icmp .ge 21, 3) := by decide +kernel
theorem dX4_undo_22 : decode cX4_undo 22 = .ok (.aload_n 0, 1) := by decide +kernel
theorem dX4_undo_23 : decode cX4_undo 23 = .ok (.getfield 7, 3) := by decide +kernel
theorem dX4_undo_26 : decode cX4_undo 26 = .ok (.iload_n 1, 1) := by decide +kernel
theorem dX4_undo_27 : decode cX4_undo 27 = .ok (.aload_n 0, 1) := by decide +kernel
theorem dX4_undo_28 : decode cX4_undo 28 = .ok (.getfield 13, 3) := by decide +kernel
theorem dX4_undo_31 : decode cX4_undo 31 = .ok (.iload_n 1, 1) := by decide +kernel
theorem dX4_undo_32 : decode cX4_undo 32 = .ok (.iaload, 1) := by decide +kernel
theorem dX4_undo_33 : decode cX4_undo 33 = .ok (.iastore, 1) := by decide +kernel
theorem dX4_undo_34 : decode cX4_undo 34 = .ok (.iinc 1 1, 3) := by decide +kernel
theorem dX4_undo_37 : decode cX4_undo 37 = .ok (.goto (-21), 3) := by decide +kernel
theorem dX4_undo_40 : decode cX4_undo 40 = .ok (.aload_n 0, 1) := by decide +kernel
theorem dX4_undo_41 : decode cX4_undo 41 = .ok (.getfield 7, 3) := by decide +kernel
theorem dX4_undo_44 : decode cX4_undo 44 = .ok (.iconst 0, 1) := by decide +kernel
theorem dX4_undo_45 : decode cX4_undo 45 = .ok (.iaload, 1) := by decide +kernel
theorem dX4_undo_46 : decode cX4_undo 46 = .ok (.ireturn, 1) := by decide +kernel
theorem dX4_tear_0 : decode cX4_tear 0 = .ok (.aload_n 0, 1) := by decide +kernel
theorem dX4_tear_1 : decode cX4_tear 1 = .ok (.getfield 293, 3) := by decide +kernel
theorem dX4_tear_4 : decode cX4_tear 4 = .ok (.ifCond .eq 7, 3) := by decide +kernel
theorem dX4_tear_7 : decode cX4_tear 7 = .ok (.iconst 1, 1) := by decide +kernel
theorem dX4_tear_8 : decode cX4_tear 8 = .ok (.goto 4, 3) := by decide +kernel
theorem dX4_tear_11 : decode cX4_tear 11 = .ok (.iconst 0, 1) := by decide +kernel
theorem dX4_tear_12 : decode cX4_tear 12 = .ok (.istore_n 1, 1) := by decide +kernel
theorem dX4_tear_13 : decode cX4_tear 13 = .ok (.aload_n 0, 1) := by decide +kernel
theorem dX4_tear_14 : decode cX4_tear 14 = .ok (.iconst 0, 1) := by decide +kernel
theorem dX4_tear_15 : decode cX4_tear 15 = .ok (.putfield 293, 3) := by decide +kernel
theorem dX4_tear_18 : decode cX4_tear 18 = .ok (.iload_n 1, 1) := by decide +kernel
theorem dX4_tear_19 : decode cX4_tear 19 = .ok (.ireturn, 1) := by decide +kernel
theorem dX4_others_0 : decode cX4_others 0 = .ok (.iconst 0, 1) := by decide +kernel
theorem dX4_others_1 : decode cX4_others 1 = .ok (.istore_n 2, 1) := by decide +kernel
theorem dX4_others_2 : decode cX4_others 2 = .ok (.iconst 0, 1) := by decide +kernel
theorem dX4_others_3 : decode cX4_others 3 = .ok (.istore_n 3, 1) := by decide +kernel
theorem dX4_others_4 : decode cX4_others 4 = .ok (.iload_n 3, 1) := by decide +kernel
theorem dX4_others_5 : decode cX4_others 5 = .ok (.bipush 48, 2) := by decide +kernel
theorem dX4_others_7 : decode cX4_others 7 = .ok (.if_icmp .ge 28, 3) := by decide +kernel
theorem dX4_others_10 : decode cX4_others 10 = .ok (.iload_n 2, 1) := by decide +kernel
theorem dX4_others_11 : decode cX4_others 11 = .ok (.aload_n 0, 1) := by decide +kernel
theorem dX4_others_12 : decode cX4_others 12 = .ok (.getfield 7, 3) := by decide +kernel
theorem dX4_others_15 : decode cX4_others 15 = .ok (.iload_n 1, 1) := by decide +kernel
theorem dX4_others_16 : decode cX4_others 16 = .ok (.iload_n 3, 1) := by decide +kernel
theorem dX4_others_17 : decode cX4_others 17 = .ok (.iadd, 1) := by decide +kernel
theorem dX4_others_18 : decode cX4_others 18 = .ok (.iaload, 1) := by decide +kernel
theorem dX4_others_19 : decode cX4_others 19 = .ok (.ifCond .ne 7, 3) := by decide +kernel
theorem dX4_others_22 : decode cX4_others 22 = .ok (.iconst 0, 1) := by decide +kernel
theorem dX4_others_23 : decode cX4_others 23 = .ok (.goto 4, 3) := by decide +kernel
theorem dX4_others_26 : decode cX4_others 26 = .ok (.iconst 1, 1) := by decide +kernel
theorem dX4_others_27 : decode cX4_others 27 = .ok (.iadd, 1) := by decide +kernel
theorem dX4_others_28 : decode cX4_others 28 = .ok (.istore_n 2, 1) := by decide +kernel
theorem dX4_others_29 : decode cX4_others 29 = .ok (.iinc 3 1, 3) := by decide +kernel
theorem dX4_others_32 : decode cX4_others 32 = .ok (.goto (-28), 3) := by decide +kernel
theorem dX4_others_35 : decode cX4_others 35 = .ok (.iload_n 2, 1) := by decide +kernel
theorem dX4_others_36 : decode cX4_others 36 = .ok (.ireturn, 1) := by decide +kernel
theorem dX4_count_0 : decode cX4_count 0 = .ok (.iload_n 1, 1) := by decide +kernel
theorem dX4_count_1 : decode cX4_count 1 = .ok (.tableswitch 56 0 3 #[31, 38, 43, 49], 31) := by decide +kernel
theorem dX4_count_32 : decode cX4_count 32 = .ok (.aload_n 0, 1) := by decide +kernel
theorem dX4_count_33 : decode cX4_count 33 = .ok (.getfield 7, 3) := by decide +kernel
theorem dX4_count_36 : decode cX4_count 36 = .ok (.iconst 0, 1) := by decide +kernel
theorem dX4_count_37 : decode cX4_count 37 = .ok (.iaload, 1) := by decide +kernel
theorem dX4_count_38 : decode cX4_count 38 = .ok (.ireturn, 1) := by decide +kernel
theorem dX4_count_39 : decode cX4_count 39 = .ok (.aload_n 0, 1) := by decide +kernel
theorem dX4_count_40 : decode cX4_count 40 = .ok (.getfield 174, 3) := by decide +kernel
theorem dX4_count_43 : decode cX4_count 43 = .ok (.ireturn, 1) := by decide +kernel
theorem dX4_count_44 : decode cX4_count 44 = .ok (.aload_n 0, 1) := by decide +kernel
theorem dX4_count_45 : decode cX4_count 45 = .ok (.iconst 3, 1) := by decide +kernel
theorem dX4_count_46 : decode cX4_count 46 = .ok (.invokevirtual 296, 3) := by decide +kernel
theorem dX4_count_49 : decode cX4_count 49 = .ok (.ireturn, 1) := by decide +kernel
theorem dX4_count_50 : decode cX4_count 50 = .ok (.aload_n 0, 1) := by decide +kernel
theorem dX4_count_51 : decode cX4_count 51 = .ok (.bipush 51, 2) := by decide +kernel
theorem dX4_count_53 : decode cX4_count 53 = .ok (.invokevirtual 296, 3) := by decide +kernel
theorem dX4_count_56 : decode cX4_count 56 = .ok (.ireturn, 1) := by decide +kernel
theorem dX4_count_57 : decode cX4_count 57 = .ok (.aload_n 0, 1) := by decide +kernel
theorem dX4_count_58 : decode cX4_count 58 = .ok (.ldc 48, 2) := by decide +kernel
theorem dX4_count_60 : decode cX4_count 60 = .ok (.invokevirtual 74, 3) := by decide +kernel
theorem dX4_count_63 : decode cX4_count 63 = .ok (.ireturn, 1) := by decide +kernel
theorem dX4_status_0 : decode cX4_status 0 = .ok (.iload_n 1, 1) := by decide +kernel
theorem dX4_status_1 : decode cX4_status 1 = .ok (.i2l, 1) := by decide +kernel
theorem dX4_status_2 : decode cX4_status 2 = .ok (.ldc2_w 299, 3) := by decide +kernel
theorem dX4_status_5 : decode cX4_status 5 = .ok (.ldc2_w 89, 3) := by decide +kernel
theorem dX4_status_8 : decode cX4_status 8 = .ok (.invokestatic 51, 3) := by decide +kernel
theorem dX4_status_11 : decode cX4_status 11 = .ok (.ifCond .ne 10, 3) := by decide +kernel
theorem dX4_status_14 : decode cX4_status 14 = .ok (.aload_n 0, 1) := by decide +kernel
theorem dX4_status_15 : decode cX4_status 15 = .ok (.ldc 48, 2) := by decide +kernel
theorem dX4_status_17 : decode cX4_status 17 = .ok (.invokevirtual 74, 3) := by decide +kernel
theorem dX4_status_20 : decode cX4_status 20 = .ok (.ireturn, 1) := by decide +kernel
theorem dX4_status_21 : decode cX4_status 21 = .ok (.iconst 0, 1) := by decide +kernel
theorem dX4_status_22 : decode cX4_status 22 = .ok (.istore_n 2, 1) := by decide +kernel
theorem dX4_status_23 : decode cX4_status 23 = .ok (.iconst 0, 1) := by decide +kernel
theorem dX4_status_24 : decode cX4_status 24 = .ok (.istore_n 3, 1) := by decide +kernel
theorem dX4_status_25 : decode cX4_status 25 = .ok (.iload_n 3, 1) := by decide +kernel
theorem dX4_status_26 : decode cX4_status 26 = .ok (.bipush 7, 2) := by decide +kernel
theorem dX4_status_28 : decode cX4_status 28 = .ok (.if_icmp .ge 31, 3) := by decide +kernel
theorem dX4_status_31 : decode cX4_status 31 = .ok (.iload_n 2, 1) := by decide +kernel
theorem dX4_status_32 : decode cX4_status 32 = .ok (.iload_n 1, 1) := by decide +kernel
theorem dX4_status_33 : decode cX4_status 33 = .ok (.ifCond .lt 8, 3) := by decide +kernel
theorem dX4_status_36 : decode cX4_status 36 = .ok (.iload_n 3, 1) := by decide +kernel
theorem dX4_status_37 : decode cX4_status 37 = .ok (.iload_n 1, 1) := by decide +kernel
theorem dX4_status_38 : decode cX4_status 38 = .ok (.if_icmp .ne 12, 3) := by decide +kernel
theorem dX4_status_41 : decode cX4_status 41 = .ok (.aload_n 0, 1) := by decide +kernel
theorem dX4_status_42 : decode cX4_status 42 = .ok (.getfield 22, 3) := by decide +kernel
theorem dX4_status_45 : decode cX4_status 45 = .ok (.iload_n 3, 1) := by decide +kernel
theorem dX4_status_46 : decode cX4_status 46 = .ok (.iaload, 1) := by decide +kernel
theorem dX4_status_47 : decode cX4_status 47 = .ok (.goto 4, 3) := by decide +kernel
theorem dX4_status_50 : decode cX4_status 50 = .ok (.iconst 0, 1) := by decide +kernel
theorem dX4_status_51 : decode cX4_status 51 = .ok (.iadd, 1) := by decide +kernel
theorem dX4_status_52 : decode cX4_status 52 = .ok (.istore_n 2, 1) := by decide +kernel
theorem dX4_status_53 : decode cX4_status 53 = .ok (.iinc 3 1, 3) := by decide +kernel
theorem dX4_status_56 : decode cX4_status 56 = .ok (.goto (-31), 3) := by decide +kernel
theorem dX4_status_59 : decode cX4_status 59 = .ok (.iload_n 2, 1) := by decide +kernel
theorem dX4_status_60 : decode cX4_status 60 = .ok (.ireturn, 1) := by decide +kernel
theorem dJ13_bitCount_95d88_0 : decode cJ13_bitCount_95d88 0 = .ok (.lload_n 0, 1) := by decide +kernel
theorem dJ13_bitCount_95d88_1 : decode cJ13_bitCount_95d88 1 = .ok (.lload_n 0, 1) := by decide +kernel
theorem dJ13_bitCount_95d88_2 : decode cJ13_bitCount_95d88 2 = .ok (.iconst 1, 1) := by decide +kernel
theorem dJ13_bitCount_95d88_3 : decode cJ13_bitCount_95d88 3 = .ok (.lushr, 1) := by decide +kernel
theorem dJ13_bitCount_95d88_4 : decode cJ13_bitCount_95d88 4 = .ok (.ldc2_w 314, 3) := by decide +kernel
theorem dJ13_bitCount_95d88_7 : decode cJ13_bitCount_95d88 7 = .ok (.land, 1) := by decide +kernel
theorem dJ13_bitCount_95d88_8 : decode cJ13_bitCount_95d88 8 = .ok (.lsub, 1) := by decide +kernel
theorem dJ13_bitCount_95d88_9 : decode cJ13_bitCount_95d88 9 = .ok (.lstore_n 0, 1) := by decide +kernel
theorem dJ13_bitCount_95d88_10 : decode cJ13_bitCount_95d88 10 = .ok (.lload_n 0, 1) := by decide +kernel
theorem dJ13_bitCount_95d88_11 : decode cJ13_bitCount_95d88 11 = .ok (.ldc2_w 316, 3) := by decide +kernel
theorem dJ13_bitCount_95d88_14 : decode cJ13_bitCount_95d88 14 = .ok (.land, 1) := by decide +kernel
theorem dJ13_bitCount_95d88_15 : decode cJ13_bitCount_95d88 15 = .ok (.lload_n 0, 1) := by decide +kernel
theorem dJ13_bitCount_95d88_16 : decode cJ13_bitCount_95d88 16 = .ok (.iconst 2, 1) := by decide +kernel
theorem dJ13_bitCount_95d88_17 : decode cJ13_bitCount_95d88 17 = .ok (.lushr, 1) := by decide +kernel
theorem dJ13_bitCount_95d88_18 : decode cJ13_bitCount_95d88 18 = .ok (.ldc2_w 316, 3) := by decide +kernel
theorem dJ13_bitCount_95d88_21 : decode cJ13_bitCount_95d88 21 = .ok (.land, 1) := by decide +kernel
theorem dJ13_bitCount_95d88_22 : decode cJ13_bitCount_95d88 22 = .ok (.ladd, 1) := by decide +kernel
theorem dJ13_bitCount_95d88_23 : decode cJ13_bitCount_95d88 23 = .ok (.lstore_n 0, 1) := by decide +kernel
theorem dJ13_bitCount_95d88_24 : decode cJ13_bitCount_95d88 24 = .ok (.lload_n 0, 1) := by decide +kernel
theorem dJ13_bitCount_95d88_25 : decode cJ13_bitCount_95d88 25 = .ok (.lload_n 0, 1) := by decide +kernel
theorem dJ13_bitCount_95d88_26 : decode cJ13_bitCount_95d88 26 = .ok (.iconst 4, 1) := by decide +kernel
theorem dJ13_bitCount_95d88_27 : decode cJ13_bitCount_95d88 27 = .ok (.lushr, 1) := by decide +kernel
theorem dJ13_bitCount_95d88_28 : decode cJ13_bitCount_95d88 28 = .ok (.ladd, 1) := by decide +kernel
theorem dJ13_bitCount_95d88_29 : decode cJ13_bitCount_95d88 29 = .ok (.ldc2_w 318, 3) := by decide +kernel
theorem dJ13_bitCount_95d88_32 : decode cJ13_bitCount_95d88 32 = .ok (.land, 1) := by decide +kernel
theorem dJ13_bitCount_95d88_33 : decode cJ13_bitCount_95d88 33 = .ok (.lstore_n 0, 1) := by decide +kernel
theorem dJ13_bitCount_95d88_34 : decode cJ13_bitCount_95d88 34 = .ok (.lload_n 0, 1) := by decide +kernel
theorem dJ13_bitCount_95d88_35 : decode cJ13_bitCount_95d88 35 = .ok (.lload_n 0, 1) := by decide +kernel
theorem dJ13_bitCount_95d88_36 : decode cJ13_bitCount_95d88 36 = .ok (.bipush 8, 2) := by decide +kernel
theorem dJ13_bitCount_95d88_38 : decode cJ13_bitCount_95d88 38 = .ok (.lushr, 1) := by decide +kernel
theorem dJ13_bitCount_95d88_39 : decode cJ13_bitCount_95d88 39 = .ok (.ladd, 1) := by decide +kernel
theorem dJ13_bitCount_95d88_40 : decode cJ13_bitCount_95d88 40 = .ok (.lstore_n 0, 1) := by decide +kernel
theorem dJ13_bitCount_95d88_41 : decode cJ13_bitCount_95d88 41 = .ok (.lload_n 0, 1) := by decide +kernel
theorem dJ13_bitCount_95d88_42 : decode cJ13_bitCount_95d88 42 = .ok (.lload_n 0, 1) := by decide +kernel
theorem dJ13_bitCount_95d88_43 : decode cJ13_bitCount_95d88 43 = .ok (.bipush 16, 2) := by decide +kernel
theorem dJ13_bitCount_95d88_45 : decode cJ13_bitCount_95d88 45 = .ok (.lushr, 1) := by decide +kernel
theorem dJ13_bitCount_95d88_46 : decode cJ13_bitCount_95d88 46 = .ok (.ladd, 1) := by decide +kernel
theorem dJ13_bitCount_95d88_47 : decode cJ13_bitCount_95d88 47 = .ok (.lstore_n 0, 1) := by decide +kernel
theorem dJ13_bitCount_95d88_48 : decode cJ13_bitCount_95d88 48 = .ok (.lload_n 0, 1) := by decide +kernel
theorem dJ13_bitCount_95d88_49 : decode cJ13_bitCount_95d88 49 = .ok (.lload_n 0, 1) := by decide +kernel
theorem dJ13_bitCount_95d88_50 : decode cJ13_bitCount_95d88 50 = .ok (.bipush 32, 2) := by decide +kernel
theorem dJ13_bitCount_95d88_52 : decode cJ13_bitCount_95d88 52 = .ok (.lushr, 1) := by decide +kernel
theorem dJ13_bitCount_95d88_53 : decode cJ13_bitCount_95d88 53 = .ok (.ladd, 1) := by decide +kernel
theorem dJ13_bitCount_95d88_54 : decode cJ13_bitCount_95d88 54 = .ok (.lstore_n 0, 1) := by decide +kernel
theorem dJ13_bitCount_95d88_55 : decode cJ13_bitCount_95d88 55 = .ok (.lload_n 0, 1) := by decide +kernel
theorem dJ13_bitCount_95d88_56 : decode cJ13_bitCount_95d88 56 = .ok (.l2i, 1) := by decide +kernel
theorem dJ13_bitCount_95d88_57 : decode cJ13_bitCount_95d88 57 = .ok (.bipush 127, 2) := by decide +kernel
theorem dJ13_bitCount_95d88_59 : decode cJ13_bitCount_95d88 59 = .ok (.iand, 1) := by decide +kernel
theorem dJ13_bitCount_95d88_60 : decode cJ13_bitCount_95d88 60 = .ok (.ireturn, 1) := by decide +kernel
theorem dJ9_abs_0f7a4_0 : decode cJ9_abs_0f7a4 0 = .ok (.iload_n 0, 1) := by decide +kernel
theorem dJ9_abs_0f7a4_1 : decode cJ9_abs_0f7a4 1 = .ok (.ifCond .ge 8, 3) := by decide +kernel
theorem dJ9_abs_0f7a4_4 : decode cJ9_abs_0f7a4 4 = .ok (.iload_n 0, 1) := by decide +kernel
theorem dJ9_abs_0f7a4_5 : decode cJ9_abs_0f7a4 5 = .ok (.ineg, 1) := by decide +kernel
theorem dJ9_abs_0f7a4_6 : decode cJ9_abs_0f7a4 6 = .ok (.goto 4, 3) := by decide +kernel
theorem dJ9_abs_0f7a4_9 : decode cJ9_abs_0f7a4 9 = .ok (.iload_n 0, 1) := by decide +kernel
theorem dJ9_abs_0f7a4_10 : decode cJ9_abs_0f7a4 10 = .ok (.ireturn, 1) := by decide +kernel
theorem dJ9_max_7cf53_0 : decode cJ9_max_7cf53 0 = .ok (.iload_n 0, 1) := by decide +kernel
theorem dJ9_max_7cf53_1 : decode cJ9_max_7cf53 1 = .ok (.iload_n 1, 1) := by decide +kernel
theorem dJ9_max_7cf53_2 : decode cJ9_max_7cf53 2 = .ok (.if_icmp .lt 7, 3) := by decide +kernel
theorem dJ9_max_7cf53_5 : decode cJ9_max_7cf53 5 = .ok (.iload_n 0, 1) := by decide +kernel
theorem dJ9_max_7cf53_6 : decode cJ9_max_7cf53 6 = .ok (.goto 4, 3) := by decide +kernel
theorem dJ9_max_7cf53_9 : decode cJ9_max_7cf53 9 = .ok (.iload_n 1, 1) := by decide +kernel
theorem dJ9_max_7cf53_10 : decode cJ9_max_7cf53 10 = .ok (.ireturn, 1) := by decide +kernel
theorem dJ9_min_7cf53_0 : decode cJ9_min_7cf53 0 = .ok (.iload_n 0, 1) := by decide +kernel
theorem dJ9_min_7cf53_1 : decode cJ9_min_7cf53 1 = .ok (.iload_n 1, 1) := by decide +kernel
theorem dJ9_min_7cf53_2 : decode cJ9_min_7cf53 2 = .ok (.if_icmp .gt 7, 3) := by decide +kernel
theorem dJ9_min_7cf53_5 : decode cJ9_min_7cf53 5 = .ok (.iload_n 0, 1) := by decide +kernel
theorem dJ9_min_7cf53_6 : decode cJ9_min_7cf53 6 = .ok (.goto 4, 3) := by decide +kernel
theorem dJ9_min_7cf53_9 : decode cJ9_min_7cf53 9 = .ok (.iload_n 1, 1) := by decide +kernel
theorem dJ9_min_7cf53_10 : decode cJ9_min_7cf53 10 = .ok (.ireturn, 1) := by decide +kernel
theorem dJ0_length_8abf5_0 : decode cJ0_length_8abf5 0 = .ok (.aload_n 0, 1) := by decide +kernel
theorem dJ0_length_8abf5_1 : decode cJ0_length_8abf5 1 = .ok (.getfield 9, 3) := by decide +kernel
theorem dJ0_length_8abf5_4 : decode cJ0_length_8abf5 4 = .ok (.arraylength, 1) := by decide +kernel
theorem dJ0_length_8abf5_5 : decode cJ0_length_8abf5 5 = .ok (.aload_n 0, 1) := by decide +kernel
theorem dJ0_length_8abf5_6 : decode cJ0_length_8abf5 6 = .ok (.invokevirtual 335, 3) := by decide +kernel
theorem dJ0_length_8abf5_9 : decode cJ0_length_8abf5 9 = .ok (.ishr, 1) := by decide +kernel
theorem dJ0_length_8abf5_10 : decode cJ0_length_8abf5 10 = .ok (.ireturn, 1) := by decide +kernel
theorem dJ0_charAt_5068e_0 : decode cJ0_charAt_5068e 0 = .ok (.aload_n 0, 1) := by decide +kernel
theorem dJ0_charAt_5068e_1 : decode cJ0_charAt_5068e 1 = .ok (.invokevirtual 492, 3) := by decide +kernel
theorem dJ0_charAt_5068e_4 : decode cJ0_charAt_5068e 4 = .ok (.ifCond .eq 12, 3) := by decide +kernel
theorem dJ0_charAt_5068e_7 : decode cJ0_charAt_5068e 7 = .ok (.aload_n 0, 1) := by decide +kernel
theorem dJ0_charAt_5068e_8 : decode cJ0_charAt_5068e 8 = .ok (.getfield 9, 3) := by decide +kernel
theorem dJ0_charAt_5068e_11 : decode cJ0_charAt_5068e 11 = .ok (.iload_n 1, 1) := by decide +kernel
theorem dJ0_charAt_5068e_12 : decode cJ0_charAt_5068e 12 = .ok (.invokestatic 495, 3) := by decide +kernel
theorem dJ0_charAt_5068e_15 : decode cJ0_charAt_5068e 15 = .ok (.ireturn, 1) := by decide +kernel
theorem dJ0_charAt_5068e_16 : decode cJ0_charAt_5068e 16 = .ok (.aload_n 0, 1) := by decide +kernel
theorem dJ0_charAt_5068e_17 : decode cJ0_charAt_5068e 17 = .ok (.getfield 9, 3) := by decide +kernel
theorem dJ0_charAt_5068e_20 : decode cJ0_charAt_5068e 20 = .ok (.iload_n 1, 1) := by decide +kernel
theorem dJ0_charAt_5068e_21 : decode cJ0_charAt_5068e 21 = .ok (.invokestatic 498, 3) := by decide +kernel
theorem dJ0_charAt_5068e_24 : decode cJ0_charAt_5068e 24 = .ok (.ireturn, 1) := by decide +kernel
theorem dJ0_coder_7d493_0 : decode cJ0_coder_7d493 0 = .ok (.getstatic 38, 3) := by decide +kernel
theorem dJ0_coder_7d493_3 : decode cJ0_coder_7d493 3 = .ok (.ifCond .eq 10, 3) := by decide +kernel
theorem dJ0_coder_7d493_6 : decode cJ0_coder_7d493 6 = .ok (.aload_n 0, 1) := by decide +kernel
theorem dJ0_coder_7d493_7 : decode cJ0_coder_7d493 7 = .ok (.getfield 15, 3) := by decide +kernel
theorem dJ0_coder_7d493_10 : decode cJ0_coder_7d493 10 = .ok (.goto 4, 3) := by decide +kernel
theorem dJ0_coder_7d493_13 : decode cJ0_coder_7d493 13 = .ok (.iconst 1, 1) := by decide +kernel
theorem dJ0_coder_7d493_14 : decode cJ0_coder_7d493 14 = .ok (.ireturn, 1) := by decide +kernel
theorem dJ0_isLatin1_aae02_0 : decode cJ0_isLatin1_aae02 0 = .ok (.getstatic 38, 3) := by decide +kernel
theorem dJ0_isLatin1_aae02_3 : decode cJ0_isLatin1_aae02 3 = .ok (.ifCond .eq 14, 3) := by decide +kernel
theorem dJ0_isLatin1_aae02_6 : decode cJ0_isLatin1_aae02 6 = .ok (.aload_n 0, 1) := by decide +kernel
theorem dJ0_isLatin1_aae02_7 : decode cJ0_isLatin1_aae02 7 = .ok (.getfield 15, 3) := by decide +kernel
theorem dJ0_isLatin1_aae02_10 : decode cJ0_isLatin1_aae02 10 = .ok (.ifCond .ne 7, 3) := by decide +kernel
theorem dJ0_isLatin1_aae02_13 : decode cJ0_isLatin1_aae02 13 = .ok (.iconst 1, 1) := by decide +kernel
theorem dJ0_isLatin1_aae02_14 : decode cJ0_isLatin1_aae02 14 = .ok (.goto 4, 3) := by decide +kernel
theorem dJ0_isLatin1_aae02_17 : decode cJ0_isLatin1_aae02 17 = .ok (.iconst 0, 1) := by decide +kernel
theorem dJ0_isLatin1_aae02_18 : decode cJ0_isLatin1_aae02 18 = .ok (.ireturn, 1) := by decide +kernel
theorem dJ0_checkIndex_df160_0 : decode cJ0_checkIndex_df160 0 = .ok (.iload_n 0, 1) := by decide +kernel
theorem dJ0_checkIndex_df160_1 : decode cJ0_checkIndex_df160 1 = .ok (.iload_n 1, 1) := by decide +kernel
theorem dJ0_checkIndex_df160_2 : decode cJ0_checkIndex_df160 2 = .ok (.getstatic 1053, 3) := by decide +kernel
theorem dJ0_checkIndex_df160_5 : decode cJ0_checkIndex_df160 5 = .ok (.invokestatic 1059, 3) := by decide +kernel
theorem dJ0_checkIndex_df160_8 : decode cJ0_checkIndex_df160 8 = .ok (.pop, 1) := by decide +kernel
theorem dJ0_checkIndex_df160_9 : decode cJ0_checkIndex_df160 9 = .ok (.return_, 1) := by decide +kernel
theorem dJ1_charAt_3b067_0 : decode cJ1_charAt_3b067 0 = .ok (.iload_n 1, 1) := by decide +kernel
theorem dJ1_charAt_3b067_1 : decode cJ1_charAt_3b067 1 = .ok (.aload_n 0, 1) := by decide +kernel
theorem dJ1_charAt_3b067_2 : decode cJ1_charAt_3b067 2 = .ok (.arraylength, 1) := by decide +kernel
theorem dJ1_charAt_3b067_3 : decode cJ1_charAt_3b067 3 = .ok (.invokestatic 9, 3) := by decide +kernel
theorem dJ1_charAt_3b067_6 : decode cJ1_charAt_3b067 6 = .ok (.aload_n 0, 1) := by decide +kernel
theorem dJ1_charAt_3b067_7 : decode cJ1_charAt_3b067 7 = .ok (.iload_n 1, 1) := by decide +kernel
theorem dJ1_charAt_3b067_8 : decode cJ1_charAt_3b067 8 = .ok (.baload, 1) := by decide +kernel
theorem dJ1_charAt_3b067_9 : decode cJ1_charAt_3b067 9 = .ok (.sipush 255, 3) := by decide +kernel
theorem dJ1_charAt_3b067_12 : decode cJ1_charAt_3b067 12 = .ok (.iand, 1) := by decide +kernel
theorem dJ1_charAt_3b067_13 : decode cJ1_charAt_3b067 13 = .ok (.i2c, 1) := by decide +kernel
theorem dJ1_charAt_3b067_14 : decode cJ1_charAt_3b067 14 = .ok (.ireturn, 1) := by decide +kernel
theorem dJ2_getChar_3b067_0 : decode cJ2_getChar_3b067 0 = .ok (.getstatic 44, 3) := by decide +kernel
theorem dJ2_getChar_3b067_3 : decode cJ2_getChar_3b067 3 = .ok (.ifCond .ne 25, 3) := by decide +kernel
theorem dJ2_getChar_3b067_6 : decode cJ2_getChar_3b067 6 = .ok (.iload_n 1, 1) := by decide +kernel
theorem dJ2_getChar_3b067_7 : decode cJ2_getChar_3b067 7 = .ok (.ifCond .lt 11, 3) := by decide +kernel
theorem dJ2_getChar_3b067_10 : decode cJ2_getChar_3b067 10 = .ok (.iload_n 1, 1) := by decide +kernel
theorem dJ2_getChar_3b067_11 : decode cJ2_getChar_3b067 11 = .ok (.aload_n 0, 1) := by decide +kernel
theorem dJ2_getChar_3b067_12 : decode cJ2_getChar_3b067 12 = .ok (.invokestatic 48, 3) := by decide +kernel
theorem dJ2_getChar_3b067_15 : decode cJ2_getChar_3b067 15 = .ok (.if_icmp .lt 13, 3) := by decide +kernel
theorem dJ2_getChar_3b067_18 : decode cJ2_getChar_3b067 18 = .ok (.new 52, 3) := by decide +kernel
theorem dJ2_getChar_3b067_21 : decode cJ2_getChar_3b067 21 = .ok (.dup, 1) := by decide +kernel
theorem dJ2_getChar_3b067_22 : decode cJ2_getChar_3b067 22 = .ok (.ldc 54, 2) := by decide +kernel
theorem dJ2_getChar_3b067_24 : decode cJ2_getChar_3b067 24 = .ok (.invokespecial 56, 3) := by decide +kernel
theorem dJ2_getChar_3b067_27 : decode cJ2_getChar_3b067 27 = .ok (.athrow, 1) := by decide +kernel
theorem dJ2_getChar_3b067_28 : decode cJ2_getChar_3b067 28 = .ok (.iload_n 1, 1) := by decide +kernel
theorem dJ2_getChar_3b067_29 : decode cJ2_getChar_3b067 29 = .ok (.iconst 1, 1) := by decide +kernel
theorem dJ2_getChar_3b067_30 : decode cJ2_getChar_3b067 30 = .ok (.ishl, 1) := by decide +kernel
theorem dJ2_getChar_3b067_31 : decode cJ2_getChar_3b067 31 = .ok (.istore_n 1, 1) := by decide +kernel
theorem dJ2_getChar_3b067_32 : decode cJ2_getChar_3b067 32 = .ok (.aload_n 0, 1) := by decide +kernel
theorem dJ2_getChar_3b067_33 : decode cJ2_getChar_3b067 33 = .ok (.iload_n 1, 1) := by decide +kernel
theorem dJ2_getChar_3b067_34 : decode cJ2_getChar_3b067 34 = .ok (.iinc 1 1, 3) := by decide +kernel
theorem dJ2_getChar_3b067_37 : decode cJ2_getChar_3b067 37 = .ok (.baload, 1) := by decide +kernel
theorem dJ2_getChar_3b067_38 : decode cJ2_getChar_3b067 38 = .ok (.sipush 255, 3) := by decide +kernel
theorem dJ2_getChar_3b067_41 : decode cJ2_getChar_3b067 41 = .ok (.iand, 1) := by decide +kernel
theorem dJ2_getChar_3b067_42 : decode cJ2_getChar_3b067 42 = .ok (.getstatic 59, 3) := by decide +kernel
theorem dJ2_getChar_3b067_45 : decode cJ2_getChar_3b067 45 = .ok (.ishl, 1) := by decide +kernel
theorem dJ2_getChar_3b067_46 : decode cJ2_getChar_3b067 46 = .ok (.aload_n 0, 1) := by decide +kernel
theorem dJ2_getChar_3b067_47 : decode cJ2_getChar_3b067 47 = .ok (.iload_n 1, 1) := by decide +kernel
theorem dJ2_getChar_3b067_48 : decode cJ2_getChar_3b067 48 = .ok (.baload, 1) := by decide +kernel
theorem dJ2_getChar_3b067_49 : decode cJ2_getChar_3b067 49 = .ok (.sipush 255, 3) := by decide +kernel
theorem dJ2_getChar_3b067_52 : decode cJ2_getChar_3b067 52 = .ok (.iand, 1) := by decide +kernel
theorem dJ2_getChar_3b067_53 : decode cJ2_getChar_3b067 53 = .ok (.getstatic 63, 3) := by decide +kernel
theorem dJ2_getChar_3b067_56 : decode cJ2_getChar_3b067 56 = .ok (.ishl, 1) := by decide +kernel
theorem dJ2_getChar_3b067_57 : decode cJ2_getChar_3b067 57 = .ok (.ior, 1) := by decide +kernel
theorem dJ2_getChar_3b067_58 : decode cJ2_getChar_3b067 58 = .ok (.i2c, 1) := by decide +kernel
theorem dJ2_getChar_3b067_59 : decode cJ2_getChar_3b067 59 = .ok (.ireturn, 1) := by decide +kernel
theorem dJ2_length_9d52b_0 : decode cJ2_length_9d52b 0 = .ok (.aload_n 0, 1) := by decide +kernel
theorem dJ2_length_9d52b_1 : decode cJ2_length_9d52b 1 = .ok (.arraylength, 1) := by decide +kernel
theorem dJ2_length_9d52b_2 : decode cJ2_length_9d52b 2 = .ok (.iconst 1, 1) := by decide +kernel
theorem dJ2_length_9d52b_3 : decode cJ2_length_9d52b 3 = .ok (.ishr, 1) := by decide +kernel
theorem dJ2_length_9d52b_4 : decode cJ2_length_9d52b 4 = .ok (.ireturn, 1) := by decide +kernel
theorem dJ2_charAt_3b067_0 : decode cJ2_charAt_3b067 0 = .ok (.iload_n 1, 1) := by decide +kernel
theorem dJ2_charAt_3b067_1 : decode cJ2_charAt_3b067 1 = .ok (.aload_n 0, 1) := by decide +kernel
theorem dJ2_charAt_3b067_2 : decode cJ2_charAt_3b067 2 = .ok (.invokestatic 67, 3) := by decide +kernel
theorem dJ2_charAt_3b067_5 : decode cJ2_charAt_3b067 5 = .ok (.aload_n 0, 1) := by decide +kernel
theorem dJ2_charAt_3b067_6 : decode cJ2_charAt_3b067 6 = .ok (.iload_n 1, 1) := by decide +kernel
theorem dJ2_charAt_3b067_7 : decode cJ2_charAt_3b067 7 = .ok (.invokestatic 71, 3) := by decide +kernel
theorem dJ2_charAt_3b067_10 : decode cJ2_charAt_3b067 10 = .ok (.ireturn, 1) := by decide +kernel
theorem dJ2_checkIndex_2214a_0 : decode cJ2_checkIndex_2214a 0 = .ok (.iload_n 0, 1) := by decide +kernel
theorem dJ2_checkIndex_2214a_1 : decode cJ2_checkIndex_2214a 1 = .ok (.aload_n 1, 1) := by decide +kernel
theorem dJ2_checkIndex_2214a_2 : decode cJ2_checkIndex_2214a 2 = .ok (.invokestatic 48, 3) := by decide +kernel
theorem dJ2_checkIndex_2214a_5 : decode cJ2_checkIndex_2214a 5 = .ok (.invokestatic 414, 3) := by decide +kernel
theorem dJ2_checkIndex_2214a_8 : decode cJ2_checkIndex_2214a 8 = .ok (.return_, 1) := by decide +kernel
theorem dJ3_checkIndex_8e157_0 : decode cJ3_checkIndex_8e157 0 = .ok (.iload_n 0, 1) := by decide +kernel
theorem dJ3_checkIndex_8e157_1 : decode cJ3_checkIndex_8e157 1 = .ok (.ifCond .lt 8, 3) := by decide +kernel
theorem dJ3_checkIndex_8e157_4 : decode cJ3_checkIndex_8e157 4 = .ok (.iload_n 0, 1) := by decide +kernel
theorem dJ3_checkIndex_8e157_5 : decode cJ3_checkIndex_8e157 5 = .ok (.iload_n 1, 1) := by decide +kernel
theorem dJ3_checkIndex_8e157_6 : decode cJ3_checkIndex_8e157 6 = .ok (.if_icmp .lt 10, 3) := by decide +kernel
theorem dJ3_checkIndex_8e157_9 : decode cJ3_checkIndex_8e157 9 = .ok (.aload_n 2, 1) := by decide +kernel
theorem dJ3_checkIndex_8e157_10 : decode cJ3_checkIndex_8e157 10 = .ok (.iload_n 0, 1) := by decide +kernel
theorem dJ3_checkIndex_8e157_11 : decode cJ3_checkIndex_8e157 11 = .ok (.iload_n 1, 1) := by decide +kernel
theorem dJ3_checkIndex_8e157_12 : decode cJ3_checkIndex_8e157 12 = .ok (.invokestatic 95, 3) := by decide +kernel
theorem dJ3_checkIndex_8e157_15 : decode cJ3_checkIndex_8e157 15 = .ok (.athrow, 1) := by decide +kernel
theorem dJ3_checkIndex_8e157_16 : decode cJ3_checkIndex_8e157 16 = .ok (.iload_n 0, 1) := by decide +kernel
theorem dJ3_checkIndex_8e157_17 : decode cJ3_checkIndex_8e157 17 = .ok (.ireturn, 1) := by decide +kernel
theorem dL_law_0 : decode cL_law 0 = .ok (.new 7, 3) := by decide +kernel
theorem dL_law_3 : decode cL_law 3 = .ok (.dup, 1) := by decide +kernel
theorem dL_law_4 : decode cL_law 4 = .ok (.invokespecial 9, 3) := by decide +kernel
theorem dL_law_7 : decode cL_law 7 = .ok (.astore_n 1, 1) := by decide +kernel
theorem dL_law_8 : decode cL_law 8 = .ok (.new 10, 3) := by decide +kernel
theorem dL_law_11 : decode cL_law 11 = .ok (.dup, 1) := by decide +kernel
theorem dL_law_12 : decode cL_law 12 = .ok (.invokespecial 12, 3) := by decide +kernel
theorem dL_law_15 : decode cL_law 15 = .ok (.astore_n 2, 1) := by decide +kernel
theorem dL_law_16 : decode cL_law 16 = .ok (.iconst 0, 1) := by decide +kernel
theorem dL_law_17 : decode cL_law 17 = .ok (.istore_n 3, 1) := by decide +kernel
theorem dL_law_18 : decode cL_law 18 = .ok (.iload_n 3, 1) := by decide +kernel
theorem dL_law_19 : decode cL_law 19 = .ok (.aload_n 0, 1) := by decide +kernel
theorem dL_law_20 : decode cL_law 20 = .ok (.arraylength, 1) := by decide +kernel
theorem dL_law_21 : decode cL_law 21 = .ok (.bipush 6, 2) := by decide +kernel
theorem dL_law_23 : decode cL_law 23 = .ok (.isub, 1) := by decide +kernel
theorem dL_law_24 : decode cL_law 24 = .ok (.if_icmp .gt 1325, 3) := by decide +kernel
theorem dL_law_27 : decode cL_law 27 = .ok (.aload_n 0, 1) := by decide +kernel
theorem dL_law_28 : decode cL_law 28 = .ok (.iload_n 3, 1) := by decide +kernel
theorem dL_law_29 : decode cL_law 29 = .ok (.iaload, 1) := by decide +kernel
theorem dL_law_30 : decode cL_law 30 = .ok (.bipush 63, 2) := by decide +kernel
theorem dL_law_32 : decode cL_law 32 = .ok (.iand, 1) := by decide +kernel
theorem dL_law_33 : decode cL_law 33 = .ok (.tableswitch 1310 0 38 #[171, 214, 247, 271, 294, 327, 360, 403, 436, 469, 502, 535, 558, 581, 624, 647, 660, 683, 706, 729, 752, 775, 808, 841, 864, 907, 940, 953, 966, 1009, 1083, 1146, 1169, 1192, 1225, 1238, 1251, 1264, 1287], 171) := by decide +kernel
theorem dL_law_204 : decode cL_law 204 = .ok (.aload_n 1, 1) := by decide +kernel
theorem dL_law_205 : decode cL_law 205 = .ok (.aload_n 0, 1) := by decide +kernel
theorem dL_law_206 : decode cL_law 206 = .ok (.iload_n 3, 1) := by decide +kernel
theorem dL_law_207 : decode cL_law 207 = .ok (.iconst 1, 1) := by decide +kernel
theorem dL_law_208 : decode cL_law 208 = .ok (.iadd, 1) := by decide +kernel
theorem dL_law_209 : decode cL_law 209 = .ok (.iaload, 1) := by decide +kernel
theorem dL_law_210 : decode cL_law 210 = .ok (.aload_n 0, 1) := by decide +kernel
theorem dL_law_211 : decode cL_law 211 = .ok (.iload_n 3, 1) := by decide +kernel
theorem dL_law_212 : decode cL_law 212 = .ok (.iconst 2, 1) := by decide +kernel
theorem dL_law_213 : decode cL_law 213 = .ok (.iadd, 1) := by decide +kernel
theorem dL_law_214 : decode cL_law 214 = .ok (.iaload, 1) := by decide +kernel
theorem dL_law_215 : decode cL_law 215 = .ok (.aload_n 0, 1) := by decide +kernel
theorem dL_law_216 : decode cL_law 216 = .ok (.iload_n 3, 1) := by decide +kernel
theorem dL_law_217 : decode cL_law 217 = .ok (.iconst 3, 1) := by decide +kernel
theorem dL_law_218 : decode cL_law 218 = .ok (.iadd, 1) := by decide +kernel
theorem dL_law_219 : decode cL_law 219 = .ok (.iaload, 1) := by decide +kernel
theorem dL_law_220 : decode cL_law 220 = .ok (.invokevirtual 13, 3) := by decide +kernel
theorem dL_law_223 : decode cL_law 223 = .ok (.aload_n 2, 1) := by decide +kernel
theorem dL_law_224 : decode cL_law 224 = .ok (.aload_n 0, 1) := by decide +kernel
theorem dL_law_225 : decode cL_law 225 = .ok (.iload_n 3, 1) := by decide +kernel
theorem dL_law_226 : decode cL_law 226 = .ok (.iconst 1, 1) := by decide +kernel
theorem dL_law_227 : decode cL_law 227 = .ok (.iadd, 1) := by decide +kernel
theorem dL_law_228 : decode cL_law 228 = .ok (.iaload, 1) := by decide +kernel
theorem dL_law_229 : decode cL_law 229 = .ok (.aload_n 0, 1) := by decide +kernel
theorem dL_law_230 : decode cL_law 230 = .ok (.iload_n 3, 1) := by decide +kernel
theorem dL_law_231 : decode cL_law 231 = .ok (.iconst 2, 1) := by decide +kernel
theorem dL_law_232 : decode cL_law 232 = .ok (.iadd, 1) := by decide +kernel
theorem dL_law_233 : decode cL_law 233 = .ok (.iaload, 1) := by decide +kernel
theorem dL_law_234 : decode cL_law 234 = .ok (.aload_n 0, 1) := by decide +kernel
theorem dL_law_235 : decode cL_law 235 = .ok (.iload_n 3, 1) := by decide +kernel
theorem dL_law_236 : decode cL_law 236 = .ok (.iconst 3, 1) := by decide +kernel
theorem dL_law_237 : decode cL_law 237 = .ok (.iadd, 1) := by decide +kernel
theorem dL_law_238 : decode cL_law 238 = .ok (.iaload, 1) := by decide +kernel
theorem dL_law_239 : decode cL_law 239 = .ok (.invokevirtual 17, 3) := by decide +kernel
theorem dL_law_242 : decode cL_law 242 = .ok (.if_icmp .eq 1101, 3) := by decide +kernel
theorem dL_law_245 : decode cL_law 245 = .ok (.iconst 0, 1) := by decide +kernel
theorem dL_law_246 : decode cL_law 246 = .ok (.ireturn, 1) := by decide +kernel
theorem dL_law_247 : decode cL_law 247 = .ok (.aload_n 1, 1) := by decide +kernel
theorem dL_law_248 : decode cL_law 248 = .ok (.aload_n 0, 1) := by decide +kernel
theorem dL_law_249 : decode cL_law 249 = .ok (.iload_n 3, 1) := by decide +kernel
theorem dL_law_250 : decode cL_law 250 = .ok (.iconst 1, 1) := by decide +kernel
theorem dL_law_251 : decode cL_law 251 = .ok (.iadd, 1) := by decide +kernel
theorem dL_law_252 : decode cL_law 252 = .ok (.iaload, 1) := by decide +kernel
theorem dL_law_253 : decode cL_law 253 = .ok (.aload_n 0, 1) := by decide +kernel
theorem dL_law_254 : decode cL_law 254 = .ok (.iload_n 3, 1) := by decide +kernel
theorem dL_law_255 : decode cL_law 255 = .ok (.iconst 2, 1) := by decide +kernel
theorem dL_law_256 : decode cL_law 256 = .ok (.iadd, 1) := by decide +kernel
theorem dL_law_257 : decode cL_law 257 = .ok (.iaload, 1) := by decide +kernel
theorem dL_law_258 : decode cL_law 258 = .ok (.invokevirtual 18, 3) := by decide +kernel
theorem dL_law_261 : decode cL_law 261 = .ok (.aload_n 2, 1) := by decide +kernel
theorem dL_law_262 : decode cL_law 262 = .ok (.aload_n 0, 1) := by decide +kernel
theorem dL_law_263 : decode cL_law 263 = .ok (.iload_n 3, 1) := by decide +kernel
theorem dL_law_264 : decode cL_law 264 = .ok (.iconst 1, 1) := by decide +kernel
theorem dL_law_265 : decode cL_law 265 = .ok (.iadd, 1) := by decide +kernel
theorem dL_law_266 : decode cL_law 266 = .ok (.iaload, 1) := by decide +kernel
theorem dL_law_267 : decode cL_law 267 = .ok (.aload_n 0, 1) := by decide +kernel
theorem dL_law_268 : decode cL_law 268 = .ok (.iload_n 3, 1) := by decide +kernel
theorem dL_law_269 : decode cL_law 269 = .ok (.iconst 2, 1) := by decide +kernel
theorem dL_law_270 : decode cL_law 270 = .ok (.iadd, 1) := by decide +kernel
theorem dL_law_271 : decode cL_law 271 = .ok (.iaload, 1) := by decide +kernel
theorem dL_law_272 : decode cL_law 272 = .ok (.invokevirtual 22, 3) := by decide +kernel
theorem dL_law_275 : decode cL_law 275 = .ok (.if_icmp .eq 1068, 3) := by decide +kernel
theorem dL_law_278 : decode cL_law 278 = .ok (.iconst 0, 1) := by decide +kernel
theorem dL_law_279 : decode cL_law 279 = .ok (.ireturn, 1) := by decide +kernel
theorem dL_law_280 : decode cL_law 280 = .ok (.aload_n 1, 1) := by decide +kernel
theorem dL_law_281 : decode cL_law 281 = .ok (.aload_n 0, 1) := by decide +kernel
theorem dL_law_282 : decode cL_law 282 = .ok (.iload_n 3, 1) := by decide +kernel
theorem dL_law_283 : decode cL_law 283 = .ok (.iconst 1, 1) := by decide +kernel
theorem dL_law_284 : decode cL_law 284 = .ok (.iadd, 1) := by decide +kernel
theorem dL_law_285 : decode cL_law 285 = .ok (.iaload, 1) := by decide +kernel
theorem dL_law_286 : decode cL_law 286 = .ok (.invokevirtual 23, 3) := by decide +kernel
theorem dL_law_289 : decode cL_law 289 = .ok (.aload_n 2, 1) := by decide +kernel
theorem dL_law_290 : decode cL_law 290 = .ok (.aload_n 0, 1) := by decide +kernel
theorem dL_law_291 : decode cL_law 291 = .ok (.iload_n 3, 1) := by decide +kernel
theorem dL_law_292 : decode cL_law 292 = .ok (.iconst 1, 1) := by decide +kernel
theorem dL_law_293 : decode cL_law 293 = .ok (.iadd, 1) := by decide +kernel
theorem dL_law_294 : decode cL_law 294 = .ok (.iaload, 1) := by decide +kernel
theorem dL_law_295 : decode cL_law 295 = .ok (.invokevirtual 27, 3) := by decide +kernel
theorem dL_law_298 : decode cL_law 298 = .ok (.lcmp, 1) := by decide +kernel
theorem dL_law_299 : decode cL_law 299 = .ok (.ifCond .eq 1044, 3) := by decide +kernel
theorem dL_law_302 : decode cL_law 302 = .ok (.iconst 0, 1) := by decide +kernel
theorem dL_law_303 : decode cL_law 303 = .ok (.ireturn, 1) := by decide +kernel
theorem dL_law_304 : decode cL_law 304 = .ok (.aload_n 1, 1) := by decide +kernel
theorem dL_law_305 : decode cL_law 305 = .ok (.aload_n 0, 1) := by decide +kernel
theorem dL_law_306 : decode cL_law 306 = .ok (.iload_n 3, 1) := by decide +kernel
theorem dL_law_307 : decode cL_law 307 = .ok (.iconst 1, 1) := by decide +kernel
theorem dL_law_308 : decode cL_law 308 = .ok (.iadd, 1) := by decide +kernel
theorem dL_law_309 : decode cL_law 309 = .ok (.iaload, 1) := by decide +kernel
theorem dL_law_310 : decode cL_law 310 = .ok (.invokevirtual 28, 3) := by decide +kernel
theorem dL_law_313 : decode cL_law 313 = .ok (.aload_n 2, 1) := by decide +kernel
theorem dL_law_314 : decode cL_law 314 = .ok (.aload_n 0, 1) := by decide +kernel
theorem dL_law_315 : decode cL_law 315 = .ok (.iload_n 3, 1) := by decide +kernel
theorem dL_law_316 : decode cL_law 316 = .ok (.iconst 1, 1) := by decide +kernel
theorem dL_law_317 : decode cL_law 317 = .ok (.iadd, 1) := by decide +kernel
theorem dL_law_318 : decode cL_law 318 = .ok (.iaload, 1) := by decide +kernel
theorem dL_law_319 : decode cL_law 319 = .ok (.invokevirtual 32, 3) := by decide +kernel
theorem dL_law_322 : decode cL_law 322 = .ok (.if_icmp .eq 1021, 3) := by decide +kernel
theorem dL_law_325 : decode cL_law 325 = .ok (.iconst 0, 1) := by decide +kernel
theorem dL_law_326 : decode cL_law 326 = .ok (.ireturn, 1) := by decide +kernel
theorem dL_law_327 : decode cL_law 327 = .ok (.aload_n 1, 1) := by decide +kernel
theorem dL_law_328 : decode cL_law 328 = .ok (.aload_n 0, 1) := by decide +kernel
theorem dL_law_329 : decode cL_law 329 = .ok (.iload_n 3, 1) := by decide +kernel
theorem dL_law_330 : decode cL_law 330 = .ok (.iconst 1, 1) := by decide +kernel
theorem dL_law_331 : decode cL_law 331 = .ok (.iadd, 1) := by decide +kernel
theorem dL_law_332 : decode cL_law 332 = .ok (.iaload, 1) := by decide +kernel
theorem dL_law_333 : decode cL_law 333 = .ok (.aload_n 0, 1) := by decide +kernel
theorem dL_law_334 : decode cL_law 334 = .ok (.iload_n 3, 1) := by decide +kernel
theorem dL_law_335 : decode cL_law 335 = .ok (.iconst 2, 1) := by decide +kernel
theorem dL_law_336 : decode cL_law 336 = .ok (.iadd, 1) := by decide +kernel
theorem dL_law_337 : decode cL_law 337 = .ok (.iaload, 1) := by decide +kernel
theorem dL_law_338 : decode cL_law 338 = .ok (.invokevirtual 33, 3) := by decide +kernel
theorem dL_law_341 : decode cL_law 341 = .ok (.aload_n 2, 1) := by decide +kernel
theorem dL_law_342 : decode cL_law 342 = .ok (.aload_n 0, 1) := by decide +kernel
theorem dL_law_343 : decode cL_law 343 = .ok (.iload_n 3, 1) := by decide +kernel
theorem dL_law_344 : decode cL_law 344 = .ok (.iconst 1, 1) := by decide +kernel
theorem dL_law_345 : decode cL_law 345 = .ok (.iadd, 1) := by decide +kernel
theorem dL_law_346 : decode cL_law 346 = .ok (.iaload, 1) := by decide +kernel
theorem dL_law_347 : decode cL_law 347 = .ok (.aload_n 0, 1) := by decide +kernel
theorem dL_law_348 : decode cL_law 348 = .ok (.iload_n 3, 1) := by decide +kernel
theorem dL_law_349 : decode cL_law 349 = .ok (.iconst 2, 1) := by decide +kernel
theorem dL_law_350 : decode cL_law 350 = .ok (.iadd, 1) := by decide +kernel
theorem dL_law_351 : decode cL_law 351 = .ok (.iaload, 1) := by decide +kernel
theorem dL_law_352 : decode cL_law 352 = .ok (.invokevirtual 36, 3) := by decide +kernel
theorem dL_law_355 : decode cL_law 355 = .ok (.if_icmp .eq 988, 3) := by decide +kernel
theorem dL_law_358 : decode cL_law 358 = .ok (.iconst 0, 1) := by decide +kernel
theorem dL_law_359 : decode cL_law 359 = .ok (.ireturn, 1) := by decide +kernel
theorem dL_law_360 : decode cL_law 360 = .ok (.aload_n 1, 1) := by decide +kernel
theorem dL_law_361 : decode cL_law 361 = .ok (.aload_n 0, 1) := by decide +kernel
theorem dL_law_362 : decode cL_law 362 = .ok (.iload_n 3, 1) := by decide +kernel
theorem dL_law_363 : decode cL_law 363 = .ok (.iconst 1, 1) := by decide +kernel
theorem dL_law_364 : decode cL_law 364 = .ok (.iadd, 1) := by decide +kernel
theorem dL_law_365 : decode cL_law 365 = .ok (.iaload, 1) := by decide +kernel
theorem dL_law_366 : decode cL_law 366 = .ok (.aload_n 0, 1) := by decide +kernel
theorem dL_law_367 : decode cL_law 367 = .ok (.iload_n 3, 1) := by decide +kernel
theorem dL_law_368 : decode cL_law 368 = .ok (.iconst 2, 1) := by decide +kernel
theorem dL_law_369 : decode cL_law 369 = .ok (.iadd, 1) := by decide +kernel
theorem dL_law_370 : decode cL_law 370 = .ok (.iaload, 1) := by decide +kernel
theorem dL_law_371 : decode cL_law 371 = .ok (.invokevirtual 37, 3) := by decide +kernel
theorem dL_law_374 : decode cL_law 374 = .ok (.aload_n 2, 1) := by decide +kernel
theorem dL_law_375 : decode cL_law 375 = .ok (.aload_n 0, 1) := by decide +kernel
theorem dL_law_376 : decode cL_law 376 = .ok (.iload_n 3, 1) := by decide +kernel
theorem dL_law_377 : decode cL_law 377 = .ok (.iconst 1, 1) := by decide +kernel
theorem dL_law_378 : decode cL_law 378 = .ok (.iadd, 1) := by decide +kernel
theorem dL_law_379 : decode cL_law 379 = .ok (.iaload, 1) := by decide +kernel
theorem dL_law_380 : decode cL_law 380 = .ok (.aload_n 0, 1) := by decide +kernel
theorem dL_law_381 : decode cL_law 381 = .ok (.iload_n 3, 1) := by decide +kernel
theorem dL_law_382 : decode cL_law 382 = .ok (.iconst 2, 1) := by decide +kernel
theorem dL_law_383 : decode cL_law 383 = .ok (.iadd, 1) := by decide +kernel
theorem dL_law_384 : decode cL_law 384 = .ok (.iaload, 1) := by decide +kernel
theorem dL_law_385 : decode cL_law 385 = .ok (.invokevirtual 40, 3) := by decide +kernel
theorem dL_law_388 : decode cL_law 388 = .ok (.if_icmp .eq 955, 3) := by decide +kernel
theorem dL_law_391 : decode cL_law 391 = .ok (.iconst 0, 1) := by decide +kernel
theorem dL_law_392 : decode cL_law 392 = .ok (.ireturn, 1) := by decide +kernel
theorem dL_law_393 : decode cL_law 393 = .ok (.aload_n 1, 1) := by decide +kernel
theorem dL_law_394 : decode cL_law 394 = .ok (.aload_n 0, 1) := by decide +kernel
theorem dL_law_395 : decode cL_law 395 = .ok (.iload_n 3, 1) := by decide +kernel
theorem dL_law_396 : decode cL_law 396 = .ok (.iconst 1, 1) := by decide +kernel
theorem dL_law_397 : decode cL_law 397 = .ok (.iadd, 1) := by decide +kernel
theorem dL_law_398 : decode cL_law 398 = .ok (.iaload, 1) := by decide +kernel
theorem dL_law_399 : decode cL_law 399 = .ok (.aload_n 0, 1) := by decide +kernel
theorem dL_law_400 : decode cL_law 400 = .ok (.iload_n 3, 1) := by decide +kernel
theorem dL_law_401 : decode cL_law 401 = .ok (.iconst 2, 1) := by decide +kernel
theorem dL_law_402 : decode cL_law 402 = .ok (.iadd, 1) := by decide +kernel
theorem dL_law_403 : decode cL_law 403 = .ok (.iaload, 1) := by decide +kernel
theorem dL_law_404 : decode cL_law 404 = .ok (.aload_n 0, 1) := by decide +kernel
theorem dL_law_405 : decode cL_law 405 = .ok (.iload_n 3, 1) := by decide +kernel
theorem dL_law_406 : decode cL_law 406 = .ok (.iconst 3, 1) := by decide +kernel
theorem dL_law_407 : decode cL_law 407 = .ok (.iadd, 1) := by decide +kernel
theorem dL_law_408 : decode cL_law 408 = .ok (.iaload, 1) := by decide +kernel
theorem dL_law_409 : decode cL_law 409 = .ok (.invokevirtual 41, 3) := by decide +kernel
theorem dL_law_412 : decode cL_law 412 = .ok (.aload_n 2, 1) := by decide +kernel
theorem dL_law_413 : decode cL_law 413 = .ok (.aload_n 0, 1) := by decide +kernel
theorem dL_law_414 : decode cL_law 414 = .ok (.iload_n 3, 1) := by decide +kernel
theorem dL_law_415 : decode cL_law 415 = .ok (.iconst 1, 1) := by decide +kernel
theorem dL_law_416 : decode cL_law 416 = .ok (.iadd, 1) := by decide +kernel
theorem dL_law_417 : decode cL_law 417 = .ok (.iaload, 1) := by decide +kernel
theorem dL_law_418 : decode cL_law 418 = .ok (.aload_n 0, 1) := by decide +kernel
theorem dL_law_419 : decode cL_law 419 = .ok (.iload_n 3, 1) := by decide +kernel
theorem dL_law_420 : decode cL_law 420 = .ok (.iconst 2, 1) := by decide +kernel
theorem dL_law_421 : decode cL_law 421 = .ok (.iadd, 1) := by decide +kernel
theorem dL_law_422 : decode cL_law 422 = .ok (.iaload, 1) := by decide +kernel
theorem dL_law_423 : decode cL_law 423 = .ok (.aload_n 0, 1) := by decide +kernel
theorem dL_law_424 : decode cL_law 424 = .ok (.iload_n 3, 1) := by decide +kernel
theorem dL_law_425 : decode cL_law 425 = .ok (.iconst 3, 1) := by decide +kernel
theorem dL_law_426 : decode cL_law 426 = .ok (.iadd, 1) := by decide +kernel
theorem dL_law_427 : decode cL_law 427 = .ok (.iaload, 1) := by decide +kernel
theorem dL_law_428 : decode cL_law 428 = .ok (.invokevirtual 44, 3) := by decide +kernel
theorem dL_law_431 : decode cL_law 431 = .ok (.if_icmp .eq 912, 3) := by decide +kernel
theorem dL_law_434 : decode cL_law 434 = .ok (.iconst 0, 1) := by decide +kernel
theorem dL_law_435 : decode cL_law 435 = .ok (.ireturn, 1) := by decide +kernel
theorem dL_law_436 : decode cL_law 436 = .ok (.aload_n 1, 1) := by decide +kernel
theorem dL_law_437 : decode cL_law 437 = .ok (.aload_n 0, 1) := by decide +kernel
theorem dL_law_438 : decode cL_law 438 = .ok (.iload_n 3, 1) := by decide +kernel
theorem dL_law_439 : decode cL_law 439 = .ok (.iconst 1, 1) := by decide +kernel
theorem dL_law_440 : decode cL_law 440 = .ok (.iadd, 1) := by decide +kernel
theorem dL_law_441 : decode cL_law 441 = .ok (.iaload, 1) := by decide +kernel
theorem dL_law_442 : decode cL_law 442 = .ok (.aload_n 0, 1) := by decide +kernel
theorem dL_law_443 : decode cL_law 443 = .ok (.iload_n 3, 1) := by decide +kernel
theorem dL_law_444 : decode cL_law 444 = .ok (.iconst 2, 1) := by decide +kernel
theorem dL_law_445 : decode cL_law 445 = .ok (.iadd, 1) := by decide +kernel
theorem dL_law_446 : decode cL_law 446 = .ok (.iaload, 1) := by decide +kernel
theorem dL_law_447 : decode cL_law 447 = .ok (.invokevirtual 45, 3) := by decide +kernel
theorem dL_law_450 : decode cL_law 450 = .ok (.aload_n 2, 1) := by decide +kernel
theorem dL_law_451 : decode cL_law 451 = .ok (.aload_n 0, 1) := by decide +kernel
theorem dL_law_452 : decode cL_law 452 = .ok (.iload_n 3, 1) := by decide +kernel
theorem dL_law_453 : decode cL_law 453 = .ok (.iconst 1, 1) := by decide +kernel
theorem dL_law_454 : decode cL_law 454 = .ok (.iadd, 1) := by decide +kernel
theorem dL_law_455 : decode cL_law 455 = .ok (.iaload, 1) := by decide +kernel
theorem dL_law_456 : decode cL_law 456 = .ok (.aload_n 0, 1) := by decide +kernel
theorem dL_law_457 : decode cL_law 457 = .ok (.iload_n 3, 1) := by decide +kernel
theorem dL_law_458 : decode cL_law 458 = .ok (.iconst 2, 1) := by decide +kernel
theorem dL_law_459 : decode cL_law 459 = .ok (.iadd, 1) := by decide +kernel
theorem dL_law_460 : decode cL_law 460 = .ok (.iaload, 1) := by decide +kernel
theorem dL_law_461 : decode cL_law 461 = .ok (.invokevirtual 48, 3) := by decide +kernel
theorem dL_law_464 : decode cL_law 464 = .ok (.if_icmp .eq 879, 3) := by decide +kernel
theorem dL_law_467 : decode cL_law 467 = .ok (.iconst 0, 1) := by decide +kernel
theorem dL_law_468 : decode cL_law 468 = .ok (.ireturn, 1) := by decide +kernel
theorem dL_law_469 : decode cL_law 469 = .ok (.aload_n 1, 1) := by decide +kernel
theorem dL_law_470 : decode cL_law 470 = .ok (.aload_n 0, 1) := by decide +kernel
theorem dL_law_471 : decode cL_law 471 = .ok (.iload_n 3, 1) := by decide +kernel
theorem dL_law_472 : decode cL_law 472 = .ok (.iconst 1, 1) := by decide +kernel
theorem dL_law_473 : decode cL_law 473 = .ok (.iadd, 1) := by decide +kernel
theorem dL_law_474 : decode cL_law 474 = .ok (.iaload, 1) := by decide +kernel
theorem dL_law_475 : decode cL_law 475 = .ok (.aload_n 0, 1) := by decide +kernel
theorem dL_law_476 : decode cL_law 476 = .ok (.iload_n 3, 1) := by decide +kernel
theorem dL_law_477 : decode cL_law 477 = .ok (.iconst 2, 1) := by decide +kernel
theorem dL_law_478 : decode cL_law 478 = .ok (.iadd, 1) := by decide +kernel
theorem dL_law_479 : decode cL_law 479 = .ok (.iaload, 1) := by decide +kernel
theorem dL_law_480 : decode cL_law 480 = .ok (.invokevirtual 49, 3) := by decide +kernel
theorem dL_law_483 : decode cL_law 483 = .ok (.aload_n 2, 1) := by decide +kernel
theorem dL_law_484 : decode cL_law 484 = .ok (.aload_n 0, 1) := by decide +kernel
theorem dL_law_485 : decode cL_law 485 = .ok (.iload_n 3, 1) := by decide +kernel
theorem dL_law_486 : decode cL_law 486 = .ok (.iconst 1, 1) := by decide +kernel
theorem dL_law_487 : decode cL_law 487 = .ok (.iadd, 1) := by decide +kernel
theorem dL_law_488 : decode cL_law 488 = .ok (.iaload, 1) := by decide +kernel
theorem dL_law_489 : decode cL_law 489 = .ok (.aload_n 0, 1) := by decide +kernel
theorem dL_law_490 : decode cL_law 490 = .ok (.iload_n 3, 1) := by decide +kernel
theorem dL_law_491 : decode cL_law 491 = .ok (.iconst 2, 1) := by decide +kernel
theorem dL_law_492 : decode cL_law 492 = .ok (.iadd, 1) := by decide +kernel
theorem dL_law_493 : decode cL_law 493 = .ok (.iaload, 1) := by decide +kernel
theorem dL_law_494 : decode cL_law 494 = .ok (.invokevirtual 52, 3) := by decide +kernel
theorem dL_law_497 : decode cL_law 497 = .ok (.if_icmp .eq 846, 3) := by decide +kernel
theorem dL_law_500 : decode cL_law 500 = .ok (.iconst 0, 1) := by decide +kernel
theorem dL_law_501 : decode cL_law 501 = .ok (.ireturn, 1) := by decide +kernel
theorem dL_law_502 : decode cL_law 502 = .ok (.aload_n 1, 1) := by decide +kernel
theorem dL_law_503 : decode cL_law 503 = .ok (.aload_n 0, 1) := by decide +kernel
theorem dL_law_504 : decode cL_law 504 = .ok (.iload_n 3, 1) := by decide +kernel
theorem dL_law_505 : decode cL_law 505 = .ok (.iconst 1, 1) := by decide +kernel
theorem dL_law_506 : decode cL_law 506 = .ok (.iadd, 1) := by decide +kernel
theorem dL_law_507 : decode cL_law 507 = .ok (.iaload, 1) := by decide +kernel
theorem dL_law_508 : decode cL_law 508 = .ok (.aload_n 0, 1) := by decide +kernel
theorem dL_law_509 : decode cL_law 509 = .ok (.iload_n 3, 1) := by decide +kernel
theorem dL_law_510 : decode cL_law 510 = .ok (.iconst 2, 1) := by decide +kernel
theorem dL_law_511 : decode cL_law 511 = .ok (.iadd, 1) := by decide +kernel
theorem dL_law_512 : decode cL_law 512 = .ok (.iaload, 1) := by decide +kernel
theorem dL_law_513 : decode cL_law 513 = .ok (.invokevirtual 53, 3) := by decide +kernel
theorem dL_law_516 : decode cL_law 516 = .ok (.aload_n 2, 1) := by decide +kernel
theorem dL_law_517 : decode cL_law 517 = .ok (.aload_n 0, 1) := by decide +kernel
theorem dL_law_518 : decode cL_law 518 = .ok (.iload_n 3, 1) := by decide +kernel
theorem dL_law_519 : decode cL_law 519 = .ok (.iconst 1, 1) := by decide +kernel
theorem dL_law_520 : decode cL_law 520 = .ok (.iadd, 1) := by decide +kernel
theorem dL_law_521 : decode cL_law 521 = .ok (.iaload, 1) := by decide +kernel
theorem dL_law_522 : decode cL_law 522 = .ok (.aload_n 0, 1) := by decide +kernel
theorem dL_law_523 : decode cL_law 523 = .ok (.iload_n 3, 1) := by decide +kernel
theorem dL_law_524 : decode cL_law 524 = .ok (.iconst 2, 1) := by decide +kernel
theorem dL_law_525 : decode cL_law 525 = .ok (.iadd, 1) := by decide +kernel
theorem dL_law_526 : decode cL_law 526 = .ok (.iaload, 1) := by decide +kernel
theorem dL_law_527 : decode cL_law 527 = .ok (.invokevirtual 56, 3) := by decide +kernel
theorem dL_law_530 : decode cL_law 530 = .ok (.if_icmp .eq 813, 3) := by decide +kernel
theorem dL_law_533 : decode cL_law 533 = .ok (.iconst 0, 1) := by decide +kernel
theorem dL_law_534 : decode cL_law 534 = .ok (.ireturn, 1) := by decide +kernel
theorem dL_law_535 : decode cL_law 535 = .ok (.aload_n 1, 1) := by decide +kernel
theorem dL_law_536 : decode cL_law 536 = .ok (.aload_n 0, 1) := by decide +kernel
theorem dL_law_537 : decode cL_law 537 = .ok (.iload_n 3, 1) := by decide +kernel
theorem dL_law_538 : decode cL_law 538 = .ok (.iconst 1, 1) := by decide +kernel
theorem dL_law_539 : decode cL_law 539 = .ok (.iadd, 1) := by decide +kernel
theorem dL_law_540 : decode cL_law 540 = .ok (.iaload, 1) := by decide +kernel
theorem dL_law_541 : decode cL_law 541 = .ok (.aload_n 0, 1) := by decide +kernel
theorem dL_law_542 : decode cL_law 542 = .ok (.iload_n 3, 1) := by decide +kernel
theorem dL_law_543 : decode cL_law 543 = .ok (.iconst 2, 1) := by decide +kernel
theorem dL_law_544 : decode cL_law 544 = .ok (.iadd, 1) := by decide +kernel
theorem dL_law_545 : decode cL_law 545 = .ok (.iaload, 1) := by decide +kernel
theorem dL_law_546 : decode cL_law 546 = .ok (.invokevirtual 57, 3) := by decide +kernel
theorem dL_law_549 : decode cL_law 549 = .ok (.aload_n 2, 1) := by decide +kernel
theorem dL_law_550 : decode cL_law 550 = .ok (.aload_n 0, 1) := by decide +kernel
theorem dL_law_551 : decode cL_law 551 = .ok (.iload_n 3, 1) := by decide +kernel
theorem dL_law_552 : decode cL_law 552 = .ok (.iconst 1, 1) := by decide +kernel
theorem dL_law_553 : decode cL_law 553 = .ok (.iadd, 1) := by decide +kernel
theorem dL_law_554 : decode cL_law 554 = .ok (.iaload, 1) := by decide +kernel
theorem dL_law_555 : decode cL_law 555 = .ok (.aload_n 0, 1) := by decide +kernel
theorem dL_law_556 : decode cL_law 556 = .ok (.iload_n 3, 1) := by decide +kernel
theorem dL_law_557 : decode cL_law 557 = .ok (.iconst 2, 1) := by decide +kernel
theorem dL_law_558 : decode cL_law 558 = .ok (.iadd, 1) := by decide +kernel
theorem dL_law_559 : decode cL_law 559 = .ok (.iaload, 1) := by decide +kernel
theorem dL_law_560 : decode cL_law 560 = .ok (.invokevirtual 60, 3) := by decide +kernel
theorem dL_law_563 : decode cL_law 563 = .ok (.if_icmp .eq 780, 3) := by decide +kernel
theorem dL_law_566 : decode cL_law 566 = .ok (.iconst 0, 1) := by decide +kernel
theorem dL_law_567 : decode cL_law 567 = .ok (.ireturn, 1) := by decide +kernel
theorem dL_law_568 : decode cL_law 568 = .ok (.aload_n 1, 1) := by decide +kernel
theorem dL_law_569 : decode cL_law 569 = .ok (.aload_n 0, 1) := by decide +kernel
theorem dL_law_570 : decode cL_law 570 = .ok (.iload_n 3, 1) := by decide +kernel
theorem dL_law_571 : decode cL_law 571 = .ok (.iconst 1, 1) := by decide +kernel
theorem dL_law_572 : decode cL_law 572 = .ok (.iadd, 1) := by decide +kernel
theorem dL_law_573 : decode cL_law 573 = .ok (.iaload, 1) := by decide +kernel
theorem dL_law_574 : decode cL_law 574 = .ok (.invokevirtual 61, 3) := by decide +kernel
theorem dL_law_577 : decode cL_law 577 = .ok (.aload_n 2, 1) := by decide +kernel
theorem dL_law_578 : decode cL_law 578 = .ok (.aload_n 0, 1) := by decide +kernel
theorem dL_law_579 : decode cL_law 579 = .ok (.iload_n 3, 1) := by decide +kernel
theorem dL_law_580 : decode cL_law 580 = .ok (.iconst 1, 1) := by decide +kernel
theorem dL_law_581 : decode cL_law 581 = .ok (.iadd, 1) := by decide +kernel
theorem dL_law_582 : decode cL_law 582 = .ok (.iaload, 1) := by decide +kernel
theorem dL_law_583 : decode cL_law 583 = .ok (.invokevirtual 64, 3) := by decide +kernel
theorem dL_law_586 : decode cL_law 586 = .ok (.if_icmp .eq 757, 3) := by decide +kernel
theorem dL_law_589 : decode cL_law 589 = .ok (.iconst 0, 1) := by decide +kernel
theorem dL_law_590 : decode cL_law 590 = .ok (.ireturn, 1) := by decide +kernel
theorem dL_law_591 : decode cL_law 591 = .ok (.aload_n 1, 1) := by decide +kernel
theorem dL_law_592 : decode cL_law 592 = .ok (.aload_n 0, 1) := by decide +kernel
theorem dL_law_593 : decode cL_law 593 = .ok (.iload_n 3, 1) := by decide +kernel
theorem dL_law_594 : decode cL_law 594 = .ok (.iconst 1, 1) := by decide +kernel
theorem dL_law_595 : decode cL_law 595 = .ok (.iadd, 1) := by decide +kernel
theorem dL_law_596 : decode cL_law 596 = .ok (.iaload, 1) := by decide +kernel
theorem dL_law_597 : decode cL_law 597 = .ok (.invokevirtual 65, 3) := by decide +kernel
theorem dL_law_600 : decode cL_law 600 = .ok (.aload_n 2, 1) := by decide +kernel
theorem dL_law_601 : decode cL_law 601 = .ok (.aload_n 0, 1) := by decide +kernel
theorem dL_law_602 : decode cL_law 602 = .ok (.iload_n 3, 1) := by decide +kernel
theorem dL_law_603 : decode cL_law 603 = .ok (.iconst 1, 1) := by decide +kernel
theorem dL_law_604 : decode cL_law 604 = .ok (.iadd, 1) := by decide +kernel
theorem dL_law_605 : decode cL_law 605 = .ok (.iaload, 1) := by decide +kernel
theorem dL_law_606 : decode cL_law 606 = .ok (.invokevirtual 68, 3) := by decide +kernel
theorem dL_law_609 : decode cL_law 609 = .ok (.if_icmp .eq 734, 3) := by decide +kernel
theorem dL_law_612 : decode cL_law 612 = .ok (.iconst 0, 1) := by decide +kernel
theorem dL_law_613 : decode cL_law 613 = .ok (.ireturn, 1) := by decide +kernel
theorem dL_law_614 : decode cL_law 614 = .ok (.aload_n 1, 1) := by decide +kernel
theorem dL_law_615 : decode cL_law 615 = .ok (.aload_n 0, 1) := by decide +kernel
theorem dL_law_616 : decode cL_law 616 = .ok (.iload_n 3, 1) := by decide +kernel
theorem dL_law_617 : decode cL_law 617 = .ok (.iconst 1, 1) := by decide +kernel
theorem dL_law_618 : decode cL_law 618 = .ok (.iadd, 1) := by decide +kernel
theorem dL_law_619 : decode cL_law 619 = .ok (.iaload, 1) := by decide +kernel
theorem dL_law_620 : decode cL_law 620 = .ok (.aload_n 0, 1) := by decide +kernel
theorem dL_law_621 : decode cL_law 621 = .ok (.iload_n 3, 1) := by decide +kernel
theorem dL_law_622 : decode cL_law 622 = .ok (.iconst 2, 1) := by decide +kernel
theorem dL_law_623 : decode cL_law 623 = .ok (.iadd, 1) := by decide +kernel
theorem dL_law_624 : decode cL_law 624 = .ok (.iaload, 1) := by decide +kernel
theorem dL_law_625 : decode cL_law 625 = .ok (.aload_n 0, 1) := by decide +kernel
theorem dL_law_626 : decode cL_law 626 = .ok (.iload_n 3, 1) := by decide +kernel
theorem dL_law_627 : decode cL_law 627 = .ok (.iconst 3, 1) := by decide +kernel
theorem dL_law_628 : decode cL_law 628 = .ok (.iadd, 1) := by decide +kernel
theorem dL_law_629 : decode cL_law 629 = .ok (.iaload, 1) := by decide +kernel
theorem dL_law_630 : decode cL_law 630 = .ok (.invokevirtual 69, 3) := by decide +kernel
theorem dL_law_633 : decode cL_law 633 = .ok (.aload_n 2, 1) := by decide +kernel
theorem dL_law_634 : decode cL_law 634 = .ok (.aload_n 0, 1) := by decide +kernel
theorem dL_law_635 : decode cL_law 635 = .ok (.iload_n 3, 1) := by decide +kernel
theorem dL_law_636 : decode cL_law 636 = .ok (.iconst 1, 1) := by decide +kernel
theorem dL_law_637 : decode cL_law 637 = .ok (.iadd, 1) := by decide +kernel
theorem dL_law_638 : decode cL_law 638 = .ok (.iaload, 1) := by decide +kernel
theorem dL_law_639 : decode cL_law 639 = .ok (.aload_n 0, 1) := by decide +kernel
theorem dL_law_640 : decode cL_law 640 = .ok (.iload_n 3, 1) := by decide +kernel
theorem dL_law_641 : decode cL_law 641 = .ok (.iconst 2, 1) := by decide +kernel
theorem dL_law_642 : decode cL_law 642 = .ok (.iadd, 1) := by decide +kernel
theorem dL_law_643 : decode cL_law 643 = .ok (.iaload, 1) := by decide +kernel
theorem dL_law_644 : decode cL_law 644 = .ok (.aload_n 0, 1) := by decide +kernel
theorem dL_law_645 : decode cL_law 645 = .ok (.iload_n 3, 1) := by decide +kernel
theorem dL_law_646 : decode cL_law 646 = .ok (.iconst 3, 1) := by decide +kernel
theorem dL_law_647 : decode cL_law 647 = .ok (.iadd, 1) := by decide +kernel
theorem dL_law_648 : decode cL_law 648 = .ok (.iaload, 1) := by decide +kernel
theorem dL_law_649 : decode cL_law 649 = .ok (.invokevirtual 72, 3) := by decide +kernel
theorem dL_law_652 : decode cL_law 652 = .ok (.if_icmp .eq 691, 3) := by decide +kernel
theorem dL_law_655 : decode cL_law 655 = .ok (.iconst 0, 1) := by decide +kernel
theorem dL_law_656 : decode cL_law 656 = .ok (.ireturn, 1) := by decide +kernel
theorem dL_law_657 : decode cL_law 657 = .ok (.aload_n 1, 1) := by decide +kernel
theorem dL_law_658 : decode cL_law 658 = .ok (.aload_n 0, 1) := by decide +kernel
theorem dL_law_659 : decode cL_law 659 = .ok (.iload_n 3, 1) := by decide +kernel
theorem dL_law_660 : decode cL_law 660 = .ok (.iconst 1, 1) := by decide +kernel
theorem dL_law_661 : decode cL_law 661 = .ok (.iadd, 1) := by decide +kernel
theorem dL_law_662 : decode cL_law 662 = .ok (.iaload, 1) := by decide +kernel
theorem dL_law_663 : decode cL_law 663 = .ok (.invokevirtual 73, 3) := by decide +kernel
theorem dL_law_666 : decode cL_law 666 = .ok (.aload_n 2, 1) := by decide +kernel
theorem dL_law_667 : decode cL_law 667 = .ok (.aload_n 0, 1) := by decide +kernel
theorem dL_law_668 : decode cL_law 668 = .ok (.iload_n 3, 1) := by decide +kernel
theorem dL_law_669 : decode cL_law 669 = .ok (.iconst 1, 1) := by decide +kernel
theorem dL_law_670 : decode cL_law 670 = .ok (.iadd, 1) := by decide +kernel
theorem dL_law_671 : decode cL_law 671 = .ok (.iaload, 1) := by decide +kernel
theorem dL_law_672 : decode cL_law 672 = .ok (.invokevirtual 76, 3) := by decide +kernel
theorem dL_law_675 : decode cL_law 675 = .ok (.if_icmp .eq 668, 3) := by decide +kernel
theorem dL_law_678 : decode cL_law 678 = .ok (.iconst 0, 1) := by decide +kernel
theorem dL_law_679 : decode cL_law 679 = .ok (.ireturn, 1) := by decide +kernel
theorem dL_law_680 : decode cL_law 680 = .ok (.aload_n 1, 1) := by decide +kernel
theorem dL_law_681 : decode cL_law 681 = .ok (.invokevirtual 77, 3) := by decide +kernel
theorem dL_law_684 : decode cL_law 684 = .ok (.aload_n 2, 1) := by decide +kernel
theorem dL_law_685 : decode cL_law 685 = .ok (.invokevirtual 81, 3) := by decide +kernel
theorem dL_law_688 : decode cL_law 688 = .ok (.if_icmp .eq 655, 3) := by decide +kernel
theorem dL_law_691 : decode cL_law 691 = .ok (.iconst 0, 1) := by decide +kernel
theorem dL_law_692 : decode cL_law 692 = .ok (.ireturn, 1) := by decide +kernel
theorem dL_law_693 : decode cL_law 693 = .ok (.aload_n 1, 1) := by decide +kernel
theorem dL_law_694 : decode cL_law 694 = .ok (.aload_n 0, 1) := by decide +kernel
theorem dL_law_695 : decode cL_law 695 = .ok (.iload_n 3, 1) := by decide +kernel
theorem dL_law_696 : decode cL_law 696 = .ok (.iconst 1, 1) := by decide +kernel
theorem dL_law_697 : decode cL_law 697 = .ok (.iadd, 1) := by decide +kernel
theorem dL_law_698 : decode cL_law 698 = .ok (.iaload, 1) := by decide +kernel
theorem dL_law_699 : decode cL_law 699 = .ok (.invokevirtual 82, 3) := by decide +kernel
theorem dL_law_702 : decode cL_law 702 = .ok (.aload_n 2, 1) := by decide +kernel
theorem dL_law_703 : decode cL_law 703 = .ok (.aload_n 0, 1) := by decide +kernel
theorem dL_law_704 : decode cL_law 704 = .ok (.iload_n 3, 1) := by decide +kernel
theorem dL_law_705 : decode cL_law 705 = .ok (.iconst 1, 1) := by decide +kernel
theorem dL_law_706 : decode cL_law 706 = .ok (.iadd, 1) := by decide +kernel
theorem dL_law_707 : decode cL_law 707 = .ok (.iaload, 1) := by decide +kernel
theorem dL_law_708 : decode cL_law 708 = .ok (.invokevirtual 85, 3) := by decide +kernel
theorem dL_law_711 : decode cL_law 711 = .ok (.if_icmp .eq 632, 3) := by decide +kernel
theorem dL_law_714 : decode cL_law 714 = .ok (.iconst 0, 1) := by decide +kernel
theorem dL_law_715 : decode cL_law 715 = .ok (.ireturn, 1) := by decide +kernel
theorem dL_law_716 : decode cL_law 716 = .ok (.aload_n 1, 1) := by decide +kernel
theorem dL_law_717 : decode cL_law 717 = .ok (.aload_n 0, 1) := by decide +kernel
theorem dL_law_718 : decode cL_law 718 = .ok (.iload_n 3, 1) := by decide +kernel
theorem dL_law_719 : decode cL_law 719 = .ok (.iconst 1, 1) := by decide +kernel
theorem dL_law_720 : decode cL_law 720 = .ok (.iadd, 1) := by decide +kernel
theorem dL_law_721 : decode cL_law 721 = .ok (.iaload, 1) := by decide +kernel
theorem dL_law_722 : decode cL_law 722 = .ok (.invokevirtual 86, 3) := by decide +kernel
theorem dL_law_725 : decode cL_law 725 = .ok (.aload_n 2, 1) := by decide +kernel
theorem dL_law_726 : decode cL_law 726 = .ok (.aload_n 0, 1) := by decide +kernel
theorem dL_law_727 : decode cL_law 727 = .ok (.iload_n 3, 1) := by decide +kernel
theorem dL_law_728 : decode cL_law 728 = .ok (.iconst 1, 1) := by decide +kernel
theorem dL_law_729 : decode cL_law 729 = .ok (.iadd, 1) := by decide +kernel
theorem dL_law_730 : decode cL_law 730 = .ok (.iaload, 1) := by decide +kernel
theorem dL_law_731 : decode cL_law 731 = .ok (.invokevirtual 89, 3) := by decide +kernel
theorem dL_law_734 : decode cL_law 734 = .ok (.if_icmp .eq 609, 3) := by decide +kernel
theorem dL_law_737 : decode cL_law 737 = .ok (.iconst 0, 1) := by decide +kernel
theorem dL_law_738 : decode cL_law 738 = .ok (.ireturn, 1) := by decide +kernel
theorem dL_law_739 : decode cL_law 739 = .ok (.aload_n 1, 1) := by decide +kernel
theorem dL_law_740 : decode cL_law 740 = .ok (.aload_n 0, 1) := by decide +kernel
theorem dL_law_741 : decode cL_law 741 = .ok (.iload_n 3, 1) := by decide +kernel
theorem dL_law_742 : decode cL_law 742 = .ok (.iconst 1, 1) := by decide +kernel
theorem dL_law_743 : decode cL_law 743 = .ok (.iadd, 1) := by decide +kernel
theorem dL_law_744 : decode cL_law 744 = .ok (.iaload, 1) := by decide +kernel
theorem dL_law_745 : decode cL_law 745 = .ok (.invokevirtual 90, 3) := by decide +kernel
theorem dL_law_748 : decode cL_law 748 = .ok (.aload_n 2, 1) := by decide +kernel
theorem dL_law_749 : decode cL_law 749 = .ok (.aload_n 0, 1) := by decide +kernel
theorem dL_law_750 : decode cL_law 750 = .ok (.iload_n 3, 1) := by decide +kernel
theorem dL_law_751 : decode cL_law 751 = .ok (.iconst 1, 1) := by decide +kernel
theorem dL_law_752 : decode cL_law 752 = .ok (.iadd, 1) := by decide +kernel
theorem dL_law_753 : decode cL_law 753 = .ok (.iaload, 1) := by decide +kernel
theorem dL_law_754 : decode cL_law 754 = .ok (.invokevirtual 93, 3) := by decide +kernel
theorem dL_law_757 : decode cL_law 757 = .ok (.if_icmp .eq 586, 3) := by decide +kernel
theorem dL_law_760 : decode cL_law 760 = .ok (.iconst 0, 1) := by decide +kernel
theorem dL_law_761 : decode cL_law 761 = .ok (.ireturn, 1) := by decide +kernel
theorem dL_law_762 : decode cL_law 762 = .ok (.aload_n 1, 1) := by decide +kernel
theorem dL_law_763 : decode cL_law 763 = .ok (.aload_n 0, 1) := by decide +kernel
theorem dL_law_764 : decode cL_law 764 = .ok (.iload_n 3, 1) := by decide +kernel
theorem dL_law_765 : decode cL_law 765 = .ok (.iconst 1, 1) := by decide +kernel
theorem dL_law_766 : decode cL_law 766 = .ok (.iadd, 1) := by decide +kernel
theorem dL_law_767 : decode cL_law 767 = .ok (.iaload, 1) := by decide +kernel
theorem dL_law_768 : decode cL_law 768 = .ok (.invokevirtual 94, 3) := by decide +kernel
theorem dL_law_771 : decode cL_law 771 = .ok (.aload_n 2, 1) := by decide +kernel
theorem dL_law_772 : decode cL_law 772 = .ok (.aload_n 0, 1) := by decide +kernel
theorem dL_law_773 : decode cL_law 773 = .ok (.iload_n 3, 1) := by decide +kernel
theorem dL_law_774 : decode cL_law 774 = .ok (.iconst 1, 1) := by decide +kernel
theorem dL_law_775 : decode cL_law 775 = .ok (.iadd, 1) := by decide +kernel
theorem dL_law_776 : decode cL_law 776 = .ok (.iaload, 1) := by decide +kernel
theorem dL_law_777 : decode cL_law 777 = .ok (.invokevirtual 97, 3) := by decide +kernel
theorem dL_law_780 : decode cL_law 780 = .ok (.if_icmp .eq 563, 3) := by decide +kernel
theorem dL_law_783 : decode cL_law 783 = .ok (.iconst 0, 1) := by decide +kernel
theorem dL_law_784 : decode cL_law 784 = .ok (.ireturn, 1) := by decide +kernel
theorem dL_law_785 : decode cL_law 785 = .ok (.aload_n 1, 1) := by decide +kernel
theorem dL_law_786 : decode cL_law 786 = .ok (.aload_n 0, 1) := by decide +kernel
theorem dL_law_787 : decode cL_law 787 = .ok (.iload_n 3, 1) := by decide +kernel
theorem dL_law_788 : decode cL_law 788 = .ok (.iconst 1, 1) := by decide +kernel
theorem dL_law_789 : decode cL_law 789 = .ok (.iadd, 1) := by decide +kernel
theorem dL_law_790 : decode cL_law 790 = .ok (.iaload, 1) := by decide +kernel
theorem dL_law_791 : decode cL_law 791 = .ok (.invokevirtual 98, 3) := by decide +kernel
theorem dL_law_794 : decode cL_law 794 = .ok (.aload_n 2, 1) := by decide +kernel
theorem dL_law_795 : decode cL_law 795 = .ok (.aload_n 0, 1) := by decide +kernel
theorem dL_law_796 : decode cL_law 796 = .ok (.iload_n 3, 1) := by decide +kernel
theorem dL_law_797 : decode cL_law 797 = .ok (.iconst 1, 1) := by decide +kernel
theorem dL_law_798 : decode cL_law 798 = .ok (.iadd, 1) := by decide +kernel
theorem dL_law_799 : decode cL_law 799 = .ok (.iaload, 1) := by decide +kernel
theorem dL_law_800 : decode cL_law 800 = .ok (.invokevirtual 101, 3) := by decide +kernel
theorem dL_law_803 : decode cL_law 803 = .ok (.if_icmp .eq 540, 3) := by decide +kernel
theorem dL_law_806 : decode cL_law 806 = .ok (.iconst 0, 1) := by decide +kernel
theorem dL_law_807 : decode cL_law 807 = .ok (.ireturn, 1) := by decide +kernel
theorem dL_law_808 : decode cL_law 808 = .ok (.aload_n 1, 1) := by decide +kernel
theorem dL_law_809 : decode cL_law 809 = .ok (.aload_n 0, 1) := by decide +kernel
theorem dL_law_810 : decode cL_law 810 = .ok (.iload_n 3, 1) := by decide +kernel
theorem dL_law_811 : decode cL_law 811 = .ok (.iconst 1, 1) := by decide +kernel
theorem dL_law_812 : decode cL_law 812 = .ok (.iadd, 1) := by decide +kernel
theorem dL_law_813 : decode cL_law 813 = .ok (.iaload, 1) := by decide +kernel
theorem dL_law_814 : decode cL_law 814 = .ok (.aload_n 0, 1) := by decide +kernel
theorem dL_law_815 : decode cL_law 815 = .ok (.iload_n 3, 1) := by decide +kernel
theorem dL_law_816 : decode cL_law 816 = .ok (.iconst 2, 1) := by decide +kernel
theorem dL_law_817 : decode cL_law 817 = .ok (.iadd, 1) := by decide +kernel
theorem dL_law_818 : decode cL_law 818 = .ok (.iaload, 1) := by decide +kernel
theorem dL_law_819 : decode cL_law 819 = .ok (.invokevirtual 102, 3) := by decide +kernel
theorem dL_law_822 : decode cL_law 822 = .ok (.aload_n 2, 1) := by decide +kernel
theorem dL_law_823 : decode cL_law 823 = .ok (.aload_n 0, 1) := by decide +kernel
theorem dL_law_824 : decode cL_law 824 = .ok (.iload_n 3, 1) := by decide +kernel
theorem dL_law_825 : decode cL_law 825 = .ok (.iconst 1, 1) := by decide +kernel
theorem dL_law_826 : decode cL_law 826 = .ok (.iadd, 1) := by decide +kernel
theorem dL_law_827 : decode cL_law 827 = .ok (.iaload, 1) := by decide +kernel
theorem dL_law_828 : decode cL_law 828 = .ok (.aload_n 0, 1) := by decide +kernel
theorem dL_law_829 : decode cL_law 829 = .ok (.iload_n 3, 1) := by decide +kernel
theorem dL_law_830 : decode cL_law 830 = .ok (.iconst 2, 1) := by decide +kernel
theorem dL_law_831 : decode cL_law 831 = .ok (.iadd, 1) := by decide +kernel
theorem dL_law_832 : decode cL_law 832 = .ok (.iaload, 1) := by decide +kernel
theorem dL_law_833 : decode cL_law 833 = .ok (.invokevirtual 105, 3) := by decide +kernel
theorem dL_law_836 : decode cL_law 836 = .ok (.if_icmp .eq 507, 3) := by decide +kernel
theorem dL_law_839 : decode cL_law 839 = .ok (.iconst 0, 1) := by decide +kernel
theorem dL_law_840 : decode cL_law 840 = .ok (.ireturn, 1) := by decide +kernel
theorem dL_law_841 : decode cL_law 841 = .ok (.aload_n 1, 1) := by decide +kernel
theorem dL_law_842 : decode cL_law 842 = .ok (.aload_n 0, 1) := by decide +kernel
theorem dL_law_843 : decode cL_law 843 = .ok (.iload_n 3, 1) := by decide +kernel
theorem dL_law_844 : decode cL_law 844 = .ok (.iconst 1, 1) := by decide +kernel
theorem dL_law_845 : decode cL_law 845 = .ok (.iadd, 1) := by decide +kernel
theorem dL_law_846 : decode cL_law 846 = .ok (.iaload, 1) := by decide +kernel
theorem dL_law_847 : decode cL_law 847 = .ok (.aload_n 0, 1) := by decide +kernel
theorem dL_law_848 : decode cL_law 848 = .ok (.iload_n 3, 1) := by decide +kernel
theorem dL_law_849 : decode cL_law 849 = .ok (.iconst 2, 1) := by decide +kernel
theorem dL_law_850 : decode cL_law 850 = .ok (.iadd, 1) := by decide +kernel
theorem dL_law_851 : decode cL_law 851 = .ok (.iaload, 1) := by decide +kernel
theorem dL_law_852 : decode cL_law 852 = .ok (.invokevirtual 106, 3) := by decide +kernel
theorem dL_law_855 : decode cL_law 855 = .ok (.aload_n 2, 1) := by decide +kernel
theorem dL_law_856 : decode cL_law 856 = .ok (.aload_n 0, 1) := by decide +kernel
theorem dL_law_857 : decode cL_law 857 = .ok (.iload_n 3, 1) := by decide +kernel
theorem dL_law_858 : decode cL_law 858 = .ok (.iconst 1, 1) := by decide +kernel
theorem dL_law_859 : decode cL_law 859 = .ok (.iadd, 1) := by decide +kernel
theorem dL_law_860 : decode cL_law 860 = .ok (.iaload, 1) := by decide +kernel
theorem dL_law_861 : decode cL_law 861 = .ok (.aload_n 0, 1) := by decide +kernel
theorem dL_law_862 : decode cL_law 862 = .ok (.iload_n 3, 1) := by decide +kernel
theorem dL_law_863 : decode cL_law 863 = .ok (.iconst 2, 1) := by decide +kernel
theorem dL_law_864 : decode cL_law 864 = .ok (.iadd, 1) := by decide +kernel
theorem dL_law_865 : decode cL_law 865 = .ok (.iaload, 1) := by decide +kernel
theorem dL_law_866 : decode cL_law 866 = .ok (.invokevirtual 109, 3) := by decide +kernel
theorem dL_law_869 : decode cL_law 869 = .ok (.if_icmp .eq 474, 3) := by decide +kernel
theorem dL_law_872 : decode cL_law 872 = .ok (.iconst 0, 1) := by decide +kernel
theorem dL_law_873 : decode cL_law 873 = .ok (.ireturn, 1) := by decide +kernel
theorem dL_law_874 : decode cL_law 874 = .ok (.aload_n 1, 1) := by decide +kernel
theorem dL_law_875 : decode cL_law 875 = .ok (.aload_n 0, 1) := by decide +kernel
theorem dL_law_876 : decode cL_law 876 = .ok (.iload_n 3, 1) := by decide +kernel
theorem dL_law_877 : decode cL_law 877 = .ok (.iconst 1, 1) := by decide +kernel
theorem dL_law_878 : decode cL_law 878 = .ok (.iadd, 1) := by decide +kernel
theorem dL_law_879 : decode cL_law 879 = .ok (.iaload, 1) := by decide +kernel
theorem dL_law_880 : decode cL_law 880 = .ok (.invokevirtual 110, 3) := by decide +kernel
theorem dL_law_883 : decode cL_law 883 = .ok (.aload_n 2, 1) := by decide +kernel
theorem dL_law_884 : decode cL_law 884 = .ok (.aload_n 0, 1) := by decide +kernel
theorem dL_law_885 : decode cL_law 885 = .ok (.iload_n 3, 1) := by decide +kernel
theorem dL_law_886 : decode cL_law 886 = .ok (.iconst 1, 1) := by decide +kernel
theorem dL_law_887 : decode cL_law 887 = .ok (.iadd, 1) := by decide +kernel
theorem dL_law_888 : decode cL_law 888 = .ok (.iaload, 1) := by decide +kernel
theorem dL_law_889 : decode cL_law 889 = .ok (.invokevirtual 113, 3) := by decide +kernel
theorem dL_law_892 : decode cL_law 892 = .ok (.if_icmp .eq 451, 3) := by decide +kernel
theorem dL_law_895 : decode cL_law 895 = .ok (.iconst 0, 1) := by decide +kernel
theorem dL_law_896 : decode cL_law 896 = .ok (.ireturn, 1) := by decide +kernel
theorem dL_law_897 : decode cL_law 897 = .ok (.aload_n 1, 1) := by decide +kernel
theorem dL_law_898 : decode cL_law 898 = .ok (.aload_n 0, 1) := by decide +kernel
theorem dL_law_899 : decode cL_law 899 = .ok (.iload_n 3, 1) := by decide +kernel
theorem dL_law_900 : decode cL_law 900 = .ok (.iconst 1, 1) := by decide +kernel
theorem dL_law_901 : decode cL_law 901 = .ok (.iadd, 1) := by decide +kernel
theorem dL_law_902 : decode cL_law 902 = .ok (.iaload, 1) := by decide +kernel
theorem dL_law_903 : decode cL_law 903 = .ok (.aload_n 0, 1) := by decide +kernel
theorem dL_law_904 : decode cL_law 904 = .ok (.iload_n 3, 1) := by decide +kernel
theorem dL_law_905 : decode cL_law 905 = .ok (.iconst 2, 1) := by decide +kernel
theorem dL_law_906 : decode cL_law 906 = .ok (.iadd, 1) := by decide +kernel
theorem dL_law_907 : decode cL_law 907 = .ok (.iaload, 1) := by decide +kernel
theorem dL_law_908 : decode cL_law 908 = .ok (.aload_n 0, 1) := by decide +kernel
theorem dL_law_909 : decode cL_law 909 = .ok (.iload_n 3, 1) := by decide +kernel
theorem dL_law_910 : decode cL_law 910 = .ok (.iconst 3, 1) := by decide +kernel
theorem dL_law_911 : decode cL_law 911 = .ok (.iadd, 1) := by decide +kernel
theorem dL_law_912 : decode cL_law 912 = .ok (.iaload, 1) := by decide +kernel
theorem dL_law_913 : decode cL_law 913 = .ok (.invokevirtual 114, 3) := by decide +kernel
theorem dL_law_916 : decode cL_law 916 = .ok (.aload_n 2, 1) := by decide +kernel
theorem dL_law_917 : decode cL_law 917 = .ok (.aload_n 0, 1) := by decide +kernel
theorem dL_law_918 : decode cL_law 918 = .ok (.iload_n 3, 1) := by decide +kernel
theorem dL_law_919 : decode cL_law 919 = .ok (.iconst 1, 1) := by decide +kernel
theorem dL_law_920 : decode cL_law 920 = .ok (.iadd, 1) := by decide +kernel
theorem dL_law_921 : decode cL_law 921 = .ok (.iaload, 1) := by decide +kernel
theorem dL_law_922 : decode cL_law 922 = .ok (.aload_n 0, 1) := by decide +kernel
theorem dL_law_923 : decode cL_law 923 = .ok (.iload_n 3, 1) := by decide +kernel
theorem dL_law_924 : decode cL_law 924 = .ok (.iconst 2, 1) := by decide +kernel
theorem dL_law_925 : decode cL_law 925 = .ok (.iadd, 1) := by decide +kernel
theorem dL_law_926 : decode cL_law 926 = .ok (.iaload, 1) := by decide +kernel
theorem dL_law_927 : decode cL_law 927 = .ok (.aload_n 0, 1) := by decide +kernel
theorem dL_law_928 : decode cL_law 928 = .ok (.iload_n 3, 1) := by decide +kernel
theorem dL_law_929 : decode cL_law 929 = .ok (.iconst 3, 1) := by decide +kernel
theorem dL_law_930 : decode cL_law 930 = .ok (.iadd, 1) := by decide +kernel
theorem dL_law_931 : decode cL_law 931 = .ok (.iaload, 1) := by decide +kernel
theorem dL_law_932 : decode cL_law 932 = .ok (.invokevirtual 117, 3) := by decide +kernel
theorem dL_law_935 : decode cL_law 935 = .ok (.if_icmp .eq 408, 3) := by decide +kernel
theorem dL_law_938 : decode cL_law 938 = .ok (.iconst 0, 1) := by decide +kernel
theorem dL_law_939 : decode cL_law 939 = .ok (.ireturn, 1) := by decide +kernel
theorem dL_law_940 : decode cL_law 940 = .ok (.aload_n 1, 1) := by decide +kernel
theorem dL_law_941 : decode cL_law 941 = .ok (.aload_n 0, 1) := by decide +kernel
theorem dL_law_942 : decode cL_law 942 = .ok (.iload_n 3, 1) := by decide +kernel
theorem dL_law_943 : decode cL_law 943 = .ok (.iconst 1, 1) := by decide +kernel
theorem dL_law_944 : decode cL_law 944 = .ok (.iadd, 1) := by decide +kernel
theorem dL_law_945 : decode cL_law 945 = .ok (.iaload, 1) := by decide +kernel
theorem dL_law_946 : decode cL_law 946 = .ok (.aload_n 0, 1) := by decide +kernel
theorem dL_law_947 : decode cL_law 947 = .ok (.iload_n 3, 1) := by decide +kernel
theorem dL_law_948 : decode cL_law 948 = .ok (.iconst 2, 1) := by decide +kernel
theorem dL_law_949 : decode cL_law 949 = .ok (.iadd, 1) := by decide +kernel
theorem dL_law_950 : decode cL_law 950 = .ok (.iaload, 1) := by decide +kernel
theorem dL_law_951 : decode cL_law 951 = .ok (.invokevirtual 118, 3) := by decide +kernel
theorem dL_law_954 : decode cL_law 954 = .ok (.aload_n 2, 1) := by decide +kernel
theorem dL_law_955 : decode cL_law 955 = .ok (.aload_n 0, 1) := by decide +kernel
theorem dL_law_956 : decode cL_law 956 = .ok (.iload_n 3, 1) := by decide +kernel
theorem dL_law_957 : decode cL_law 957 = .ok (.iconst 1, 1) := by decide +kernel
theorem dL_law_958 : decode cL_law 958 = .ok (.iadd, 1) := by decide +kernel
theorem dL_law_959 : decode cL_law 959 = .ok (.iaload, 1) := by decide +kernel
theorem dL_law_960 : decode cL_law 960 = .ok (.aload_n 0, 1) := by decide +kernel
theorem dL_law_961 : decode cL_law 961 = .ok (.iload_n 3, 1) := by decide +kernel
theorem dL_law_962 : decode cL_law 962 = .ok (.iconst 2, 1) := by decide +kernel
theorem dL_law_963 : decode cL_law 963 = .ok (.iadd, 1) := by decide +kernel
theorem dL_law_964 : decode cL_law 964 = .ok (.iaload, 1) := by decide +kernel
theorem dL_law_965 : decode cL_law 965 = .ok (.invokevirtual 121, 3) := by decide +kernel
theorem dL_law_968 : decode cL_law 968 = .ok (.if_icmp .eq 375, 3) := by decide +kernel
theorem dL_law_971 : decode cL_law 971 = .ok (.iconst 0, 1) := by decide +kernel
theorem dL_law_972 : decode cL_law 972 = .ok (.ireturn, 1) := by decide +kernel
theorem dL_law_973 : decode cL_law 973 = .ok (.aload_n 1, 1) := by decide +kernel
theorem dL_law_974 : decode cL_law 974 = .ok (.invokevirtual 122, 3) := by decide +kernel
theorem dL_law_977 : decode cL_law 977 = .ok (.aload_n 2, 1) := by decide +kernel
theorem dL_law_978 : decode cL_law 978 = .ok (.invokevirtual 125, 3) := by decide +kernel
theorem dL_law_981 : decode cL_law 981 = .ok (.if_icmp .eq 362, 3) := by decide +kernel
theorem dL_law_984 : decode cL_law 984 = .ok (.iconst 0, 1) := by decide +kernel
theorem dL_law_985 : decode cL_law 985 = .ok (.ireturn, 1) := by decide +kernel
theorem dL_law_986 : decode cL_law 986 = .ok (.aload_n 1, 1) := by decide +kernel
theorem dL_law_987 : decode cL_law 987 = .ok (.invokevirtual 126, 3) := by decide +kernel
theorem dL_law_990 : decode cL_law 990 = .ok (.aload_n 2, 1) := by decide +kernel
theorem dL_law_991 : decode cL_law 991 = .ok (.invokevirtual 129, 3) := by decide +kernel
theorem dL_law_994 : decode cL_law 994 = .ok (.if_icmp .eq 349, 3) := by decide +kernel
theorem dL_law_997 : decode cL_law 997 = .ok (.iconst 0, 1) := by decide +kernel
theorem dL_law_998 : decode cL_law 998 = .ok (.ireturn, 1) := by decide +kernel
theorem dL_law_999 : decode cL_law 999 = .ok (.aload_n 1, 1) := by decide +kernel
theorem dL_law_1000 : decode cL_law 1000 = .ok (.aload_n 0, 1) := by decide +kernel
theorem dL_law_1001 : decode cL_law 1001 = .ok (.iload_n 3, 1) := by decide +kernel
theorem dL_law_1002 : decode cL_law 1002 = .ok (.iconst 1, 1) := by decide +kernel
theorem dL_law_1003 : decode cL_law 1003 = .ok (.iadd, 1) := by decide +kernel
theorem dL_law_1004 : decode cL_law 1004 = .ok (.iaload, 1) := by decide +kernel
theorem dL_law_1005 : decode cL_law 1005 = .ok (.aload_n 0, 1) := by decide +kernel
theorem dL_law_1006 : decode cL_law 1006 = .ok (.iload_n 3, 1) := by decide +kernel
theorem dL_law_1007 : decode cL_law 1007 = .ok (.iconst 2, 1) := by decide +kernel
theorem dL_law_1008 : decode cL_law 1008 = .ok (.iadd, 1) := by decide +kernel
theorem dL_law_1009 : decode cL_law 1009 = .ok (.iaload, 1) := by decide +kernel
theorem dL_law_1010 : decode cL_law 1010 = .ok (.aload_n 0, 1) := by decide +kernel
theorem dL_law_1011 : decode cL_law 1011 = .ok (.iload_n 3, 1) := by decide +kernel
theorem dL_law_1012 : decode cL_law 1012 = .ok (.iconst 3, 1) := by decide +kernel
theorem dL_law_1013 : decode cL_law 1013 = .ok (.iadd, 1) := by decide +kernel
theorem dL_law_1014 : decode cL_law 1014 = .ok (.iaload, 1) := by decide +kernel
theorem dL_law_1015 : decode cL_law 1015 = .ok (.invokevirtual 130, 3) := by decide +kernel
theorem dL_law_1018 : decode cL_law 1018 = .ok (.aload_n 2, 1) := by decide +kernel
theorem dL_law_1019 : decode cL_law 1019 = .ok (.aload_n 0, 1) := by decide +kernel
theorem dL_law_1020 : decode cL_law 1020 = .ok (.iload_n 3, 1) := by decide +kernel
theorem dL_law_1021 : decode cL_law 1021 = .ok (.iconst 1, 1) := by decide +kernel
theorem dL_law_1022 : decode cL_law 1022 = .ok (.iadd, 1) := by decide +kernel
theorem dL_law_1023 : decode cL_law 1023 = .ok (.iaload, 1) := by decide +kernel
theorem dL_law_1024 : decode cL_law 1024 = .ok (.aload_n 0, 1) := by decide +kernel
theorem dL_law_1025 : decode cL_law 1025 = .ok (.iload_n 3, 1) := by decide +kernel
theorem dL_law_1026 : decode cL_law 1026 = .ok (.iconst 2, 1) := by decide +kernel
theorem dL_law_1027 : decode cL_law 1027 = .ok (.iadd, 1) := by decide +kernel
theorem dL_law_1028 : decode cL_law 1028 = .ok (.iaload, 1) := by decide +kernel
theorem dL_law_1029 : decode cL_law 1029 = .ok (.aload_n 0, 1) := by decide +kernel
theorem dL_law_1030 : decode cL_law 1030 = .ok (.iload_n 3, 1) := by decide +kernel
theorem dL_law_1031 : decode cL_law 1031 = .ok (.iconst 3, 1) := by decide +kernel
theorem dL_law_1032 : decode cL_law 1032 = .ok (.iadd, 1) := by decide +kernel
theorem dL_law_1033 : decode cL_law 1033 = .ok (.iaload, 1) := by decide +kernel
theorem dL_law_1034 : decode cL_law 1034 = .ok (.invokevirtual 133, 3) := by decide +kernel
theorem dL_law_1037 : decode cL_law 1037 = .ok (.if_icmp .eq 306, 3) := by decide +kernel
theorem dL_law_1040 : decode cL_law 1040 = .ok (.iconst 0, 1) := by decide +kernel
theorem dL_law_1041 : decode cL_law 1041 = .ok (.ireturn, 1) := by decide +kernel
theorem dL_law_1042 : decode cL_law 1042 = .ok (.aload_n 1, 1) := by decide +kernel
theorem dL_law_1043 : decode cL_law 1043 = .ok (.aload_n 0, 1) := by decide +kernel
theorem dL_law_1044 : decode cL_law 1044 = .ok (.iload_n 3, 1) := by decide +kernel
theorem dL_law_1045 : decode cL_law 1045 = .ok (.iconst 1, 1) := by decide +kernel
theorem dL_law_1046 : decode cL_law 1046 = .ok (.iadd, 1) := by decide +kernel
theorem dL_law_1047 : decode cL_law 1047 = .ok (.iaload, 1) := by decide +kernel
theorem dL_law_1048 : decode cL_law 1048 = .ok (.aload_n 0, 1) := by decide +kernel
theorem dL_law_1049 : decode cL_law 1049 = .ok (.iload_n 3, 1) := by decide +kernel
theorem dL_law_1050 : decode cL_law 1050 = .ok (.iconst 2, 1) := by decide +kernel
theorem dL_law_1051 : decode cL_law 1051 = .ok (.iadd, 1) := by decide +kernel
theorem dL_law_1052 : decode cL_law 1052 = .ok (.iaload, 1) := by decide +kernel
theorem dL_law_1053 : decode cL_law 1053 = .ok (.aload_n 0, 1) := by decide +kernel
theorem dL_law_1054 : decode cL_law 1054 = .ok (.iload_n 3, 1) := by decide +kernel
theorem dL_law_1055 : decode cL_law 1055 = .ok (.iconst 3, 1) := by decide +kernel
theorem dL_law_1056 : decode cL_law 1056 = .ok (.iadd, 1) := by decide +kernel
theorem dL_law_1057 : decode cL_law 1057 = .ok (.iaload, 1) := by decide +kernel
theorem dL_law_1058 : decode cL_law 1058 = .ok (.i2l, 1) := by decide +kernel
theorem dL_law_1059 : decode cL_law 1059 = .ok (.bipush 32, 2) := by decide +kernel
theorem dL_law_1061 : decode cL_law 1061 = .ok (.lshl, 1) := by decide +kernel
theorem dL_law_1062 : decode cL_law 1062 = .ok (.aload_n 0, 1) := by decide +kernel
theorem dL_law_1063 : decode cL_law 1063 = .ok (.iload_n 3, 1) := by decide +kernel
theorem dL_law_1064 : decode cL_law 1064 = .ok (.iconst 4, 1) := by decide +kernel
theorem dL_law_1065 : decode cL_law 1065 = .ok (.iadd, 1) := by decide +kernel
theorem dL_law_1066 : decode cL_law 1066 = .ok (.iaload, 1) := by decide +kernel
theorem dL_law_1067 : decode cL_law 1067 = .ok (.i2l, 1) := by decide +kernel
theorem dL_law_1068 : decode cL_law 1068 = .ok (.ldc2_w 134, 3) := by decide +kernel
theorem dL_law_1071 : decode cL_law 1071 = .ok (.land, 1) := by decide +kernel
theorem dL_law_1072 : decode cL_law 1072 = .ok (.lor, 1) := by decide +kernel
theorem dL_law_1073 : decode cL_law 1073 = .ok (.invokevirtual 136, 3) := by decide +kernel
theorem dL_law_1076 : decode cL_law 1076 = .ok (.aload_n 2, 1) := by decide +kernel
theorem dL_law_1077 : decode cL_law 1077 = .ok (.aload_n 0, 1) := by decide +kernel
theorem dL_law_1078 : decode cL_law 1078 = .ok (.iload_n 3, 1) := by decide +kernel
theorem dL_law_1079 : decode cL_law 1079 = .ok (.iconst 1, 1) := by decide +kernel
theorem dL_law_1080 : decode cL_law 1080 = .ok (.iadd, 1) := by decide +kernel
theorem dL_law_1081 : decode cL_law 1081 = .ok (.iaload, 1) := by decide +kernel
theorem dL_law_1082 : decode cL_law 1082 = .ok (.aload_n 0, 1) := by decide +kernel
theorem dL_law_1083 : decode cL_law 1083 = .ok (.iload_n 3, 1) := by decide +kernel
theorem dL_law_1084 : decode cL_law 1084 = .ok (.iconst 2, 1) := by decide +kernel
theorem dL_law_1085 : decode cL_law 1085 = .ok (.iadd, 1) := by decide +kernel
theorem dL_law_1086 : decode cL_law 1086 = .ok (.iaload, 1) := by decide +kernel
theorem dL_law_1087 : decode cL_law 1087 = .ok (.aload_n 0, 1) := by decide +kernel
theorem dL_law_1088 : decode cL_law 1088 = .ok (.iload_n 3, 1) := by decide +kernel
theorem dL_law_1089 : decode cL_law 1089 = .ok (.iconst 3, 1) := by decide +kernel
theorem dL_law_1090 : decode cL_law 1090 = .ok (.iadd, 1) := by decide +kernel
theorem dL_law_1091 : decode cL_law 1091 = .ok (.iaload, 1) := by decide +kernel
theorem dL_law_1092 : decode cL_law 1092 = .ok (.i2l, 1) := by decide +kernel
theorem dL_law_1093 : decode cL_law 1093 = .ok (.bipush 32, 2) := by decide +kernel
theorem dL_law_1095 : decode cL_law 1095 = .ok (.lshl, 1) := by decide +kernel
theorem dL_law_1096 : decode cL_law 1096 = .ok (.aload_n 0, 1) := by decide +kernel
theorem dL_law_1097 : decode cL_law 1097 = .ok (.iload_n 3, 1) := by decide +kernel
theorem dL_law_1098 : decode cL_law 1098 = .ok (.iconst 4, 1) := by decide +kernel
theorem dL_law_1099 : decode cL_law 1099 = .ok (.iadd, 1) := by decide +kernel
theorem dL_law_1100 : decode cL_law 1100 = .ok (.iaload, 1) := by decide +kernel
theorem dL_law_1101 : decode cL_law 1101 = .ok (.i2l, 1) := by decide +kernel
theorem dL_law_1102 : decode cL_law 1102 = .ok (.ldc2_w 134, 3) := by decide +kernel
theorem dL_law_1105 : decode cL_law 1105 = .ok (.land, 1) := by decide +kernel
theorem dL_law_1106 : decode cL_law 1106 = .ok (.lor, 1) := by decide +kernel
theorem dL_law_1107 : decode cL_law 1107 = .ok (.invokevirtual 140, 3) := by decide +kernel
theorem dL_law_1110 : decode cL_law 1110 = .ok (.lcmp, 1) := by decide +kernel
theorem dL_law_1111 : decode cL_law 1111 = .ok (.ifCond .eq 232, 3) := by decide +kernel
theorem dL_law_1114 : decode cL_law 1114 = .ok (.iconst 0, 1) := by decide +kernel
theorem dL_law_1115 : decode cL_law 1115 = .ok (.ireturn, 1) := by decide +kernel
theorem dL_law_1116 : decode cL_law 1116 = .ok (.aload_n 1, 1) := by decide +kernel
theorem dL_law_1117 : decode cL_law 1117 = .ok (.aload_n 0, 1) := by decide +kernel
theorem dL_law_1118 : decode cL_law 1118 = .ok (.iload_n 3, 1) := by decide +kernel
theorem dL_law_1119 : decode cL_law 1119 = .ok (.iconst 1, 1) := by decide +kernel
theorem dL_law_1120 : decode cL_law 1120 = .ok (.iadd, 1) := by decide +kernel
theorem dL_law_1121 : decode cL_law 1121 = .ok (.iaload, 1) := by decide +kernel
theorem dL_law_1122 : decode cL_law 1122 = .ok (.aload_n 0, 1) := by decide +kernel
theorem dL_law_1123 : decode cL_law 1123 = .ok (.iload_n 3, 1) := by decide +kernel
theorem dL_law_1124 : decode cL_law 1124 = .ok (.iconst 2, 1) := by decide +kernel
theorem dL_law_1125 : decode cL_law 1125 = .ok (.iadd, 1) := by decide +kernel
theorem dL_law_1126 : decode cL_law 1126 = .ok (.iaload, 1) := by decide +kernel
theorem dL_law_1127 : decode cL_law 1127 = .ok (.aload_n 0, 1) := by decide +kernel
theorem dL_law_1128 : decode cL_law 1128 = .ok (.iload_n 3, 1) := by decide +kernel
theorem dL_law_1129 : decode cL_law 1129 = .ok (.iconst 3, 1) := by decide +kernel
theorem dL_law_1130 : decode cL_law 1130 = .ok (.iadd, 1) := by decide +kernel
theorem dL_law_1131 : decode cL_law 1131 = .ok (.iaload, 1) := by decide +kernel
theorem dL_law_1132 : decode cL_law 1132 = .ok (.aload_n 0, 1) := by decide +kernel
theorem dL_law_1133 : decode cL_law 1133 = .ok (.iload_n 3, 1) := by decide +kernel
theorem dL_law_1134 : decode cL_law 1134 = .ok (.iconst 4, 1) := by decide +kernel
theorem dL_law_1135 : decode cL_law 1135 = .ok (.iadd, 1) := by decide +kernel
theorem dL_law_1136 : decode cL_law 1136 = .ok (.iaload, 1) := by decide +kernel
theorem dL_law_1137 : decode cL_law 1137 = .ok (.aload_n 0, 1) := by decide +kernel
theorem dL_law_1138 : decode cL_law 1138 = .ok (.iload_n 3, 1) := by decide +kernel
theorem dL_law_1139 : decode cL_law 1139 = .ok (.iconst 5, 1) := by decide +kernel
theorem dL_law_1140 : decode cL_law 1140 = .ok (.iadd, 1) := by decide +kernel
theorem dL_law_1141 : decode cL_law 1141 = .ok (.iaload, 1) := by decide +kernel
theorem dL_law_1142 : decode cL_law 1142 = .ok (.invokevirtual 141, 3) := by decide +kernel
theorem dL_law_1145 : decode cL_law 1145 = .ok (.aload_n 2, 1) := by decide +kernel
theorem dL_law_1146 : decode cL_law 1146 = .ok (.aload_n 0, 1) := by decide +kernel
theorem dL_law_1147 : decode cL_law 1147 = .ok (.iload_n 3, 1) := by decide +kernel
theorem dL_law_1148 : decode cL_law 1148 = .ok (.iconst 1, 1) := by decide +kernel
theorem dL_law_1149 : decode cL_law 1149 = .ok (.iadd, 1) := by decide +kernel
theorem dL_law_1150 : decode cL_law 1150 = .ok (.iaload, 1) := by decide +kernel
theorem dL_law_1151 : decode cL_law 1151 = .ok (.aload_n 0, 1) := by decide +kernel
theorem dL_law_1152 : decode cL_law 1152 = .ok (.iload_n 3, 1) := by decide +kernel
theorem dL_law_1153 : decode cL_law 1153 = .ok (.iconst 2, 1) := by decide +kernel
theorem dL_law_1154 : decode cL_law 1154 = .ok (.iadd, 1) := by decide +kernel
theorem dL_law_1155 : decode cL_law 1155 = .ok (.iaload, 1) := by decide +kernel
theorem dL_law_1156 : decode cL_law 1156 = .ok (.aload_n 0, 1) := by decide +kernel
theorem dL_law_1157 : decode cL_law 1157 = .ok (.iload_n 3, 1) := by decide +kernel
theorem dL_law_1158 : decode cL_law 1158 = .ok (.iconst 3, 1) := by decide +kernel
theorem dL_law_1159 : decode cL_law 1159 = .ok (.iadd, 1) := by decide +kernel
theorem dL_law_1160 : decode cL_law 1160 = .ok (.iaload, 1) := by decide +kernel
theorem dL_law_1161 : decode cL_law 1161 = .ok (.aload_n 0, 1) := by decide +kernel
theorem dL_law_1162 : decode cL_law 1162 = .ok (.iload_n 3, 1) := by decide +kernel
theorem dL_law_1163 : decode cL_law 1163 = .ok (.iconst 4, 1) := by decide +kernel
theorem dL_law_1164 : decode cL_law 1164 = .ok (.iadd, 1) := by decide +kernel
theorem dL_law_1165 : decode cL_law 1165 = .ok (.iaload, 1) := by decide +kernel
theorem dL_law_1166 : decode cL_law 1166 = .ok (.aload_n 0, 1) := by decide +kernel
theorem dL_law_1167 : decode cL_law 1167 = .ok (.iload_n 3, 1) := by decide +kernel
theorem dL_law_1168 : decode cL_law 1168 = .ok (.iconst 5, 1) := by decide +kernel
theorem dL_law_1169 : decode cL_law 1169 = .ok (.iadd, 1) := by decide +kernel
theorem dL_law_1170 : decode cL_law 1170 = .ok (.iaload, 1) := by decide +kernel
theorem dL_law_1171 : decode cL_law 1171 = .ok (.invokevirtual 145, 3) := by decide +kernel
theorem dL_law_1174 : decode cL_law 1174 = .ok (.if_icmp .eq 169, 3) := by decide +kernel
theorem dL_law_1177 : decode cL_law 1177 = .ok (.iconst 0, 1) := by decide +kernel
theorem dL_law_1178 : decode cL_law 1178 = .ok (.ireturn, 1) := by decide +kernel
theorem dL_law_1179 : decode cL_law 1179 = .ok (.aload_n 1, 1) := by decide +kernel
theorem dL_law_1180 : decode cL_law 1180 = .ok (.aload_n 0, 1) := by decide +kernel
theorem dL_law_1181 : decode cL_law 1181 = .ok (.iload_n 3, 1) := by decide +kernel
theorem dL_law_1182 : decode cL_law 1182 = .ok (.iconst 1, 1) := by decide +kernel
theorem dL_law_1183 : decode cL_law 1183 = .ok (.iadd, 1) := by decide +kernel
theorem dL_law_1184 : decode cL_law 1184 = .ok (.iaload, 1) := by decide +kernel
theorem dL_law_1185 : decode cL_law 1185 = .ok (.invokevirtual 146, 3) := by decide +kernel
theorem dL_law_1188 : decode cL_law 1188 = .ok (.aload_n 2, 1) := by decide +kernel
theorem dL_law_1189 : decode cL_law 1189 = .ok (.aload_n 0, 1) := by decide +kernel
theorem dL_law_1190 : decode cL_law 1190 = .ok (.iload_n 3, 1) := by decide +kernel
theorem dL_law_1191 : decode cL_law 1191 = .ok (.iconst 1, 1) := by decide +kernel
theorem dL_law_1192 : decode cL_law 1192 = .ok (.iadd, 1) := by decide +kernel
theorem dL_law_1193 : decode cL_law 1193 = .ok (.iaload, 1) := by decide +kernel
theorem dL_law_1194 : decode cL_law 1194 = .ok (.invokevirtual 149, 3) := by decide +kernel
theorem dL_law_1197 : decode cL_law 1197 = .ok (.if_icmp .eq 146, 3) := by decide +kernel
theorem dL_law_1200 : decode cL_law 1200 = .ok (.iconst 0, 1) := by decide +kernel
theorem dL_law_1201 : decode cL_law 1201 = .ok (.ireturn, 1) := by decide +kernel
theorem dL_law_1202 : decode cL_law 1202 = .ok (.aload_n 1, 1) := by decide +kernel
theorem dL_law_1203 : decode cL_law 1203 = .ok (.aload_n 0, 1) := by decide +kernel
theorem dL_law_1204 : decode cL_law 1204 = .ok (.iload_n 3, 1) := by decide +kernel
theorem dL_law_1205 : decode cL_law 1205 = .ok (.iconst 1, 1) := by decide +kernel
theorem dL_law_1206 : decode cL_law 1206 = .ok (.iadd, 1) := by decide +kernel
theorem dL_law_1207 : decode cL_law 1207 = .ok (.iaload, 1) := by decide +kernel
theorem dL_law_1208 : decode cL_law 1208 = .ok (.invokevirtual 150, 3) := by decide +kernel
theorem dL_law_1211 : decode cL_law 1211 = .ok (.aload_n 2, 1) := by decide +kernel
theorem dL_law_1212 : decode cL_law 1212 = .ok (.aload_n 0, 1) := by decide +kernel
theorem dL_law_1213 : decode cL_law 1213 = .ok (.iload_n 3, 1) := by decide +kernel
theorem dL_law_1214 : decode cL_law 1214 = .ok (.iconst 1, 1) := by decide +kernel
theorem dL_law_1215 : decode cL_law 1215 = .ok (.iadd, 1) := by decide +kernel
theorem dL_law_1216 : decode cL_law 1216 = .ok (.iaload, 1) := by decide +kernel
theorem dL_law_1217 : decode cL_law 1217 = .ok (.invokevirtual 153, 3) := by decide +kernel
theorem dL_law_1220 : decode cL_law 1220 = .ok (.if_icmp .eq 123, 3) := by decide +kernel
theorem dL_law_1223 : decode cL_law 1223 = .ok (.iconst 0, 1) := by decide +kernel
theorem dL_law_1224 : decode cL_law 1224 = .ok (.ireturn, 1) := by decide +kernel
theorem dL_law_1225 : decode cL_law 1225 = .ok (.aload_n 1, 1) := by decide +kernel
theorem dL_law_1226 : decode cL_law 1226 = .ok (.aload_n 0, 1) := by decide +kernel
theorem dL_law_1227 : decode cL_law 1227 = .ok (.iload_n 3, 1) := by decide +kernel
theorem dL_law_1228 : decode cL_law 1228 = .ok (.iconst 1, 1) := by decide +kernel
theorem dL_law_1229 : decode cL_law 1229 = .ok (.iadd, 1) := by decide +kernel
theorem dL_law_1230 : decode cL_law 1230 = .ok (.iaload, 1) := by decide +kernel
theorem dL_law_1231 : decode cL_law 1231 = .ok (.aload_n 0, 1) := by decide +kernel
theorem dL_law_1232 : decode cL_law 1232 = .ok (.iload_n 3, 1) := by decide +kernel
theorem dL_law_1233 : decode cL_law 1233 = .ok (.iconst 2, 1) := by decide +kernel
theorem dL_law_1234 : decode cL_law 1234 = .ok (.iadd, 1) := by decide +kernel
theorem dL_law_1235 : decode cL_law 1235 = .ok (.iaload, 1) := by decide +kernel
theorem dL_law_1236 : decode cL_law 1236 = .ok (.invokevirtual 154, 3) := by decide +kernel
theorem dL_law_1239 : decode cL_law 1239 = .ok (.aload_n 2, 1) := by decide +kernel
theorem dL_law_1240 : decode cL_law 1240 = .ok (.aload_n 0, 1) := by decide +kernel
theorem dL_law_1241 : decode cL_law 1241 = .ok (.iload_n 3, 1) := by decide +kernel
theorem dL_law_1242 : decode cL_law 1242 = .ok (.iconst 1, 1) := by decide +kernel
theorem dL_law_1243 : decode cL_law 1243 = .ok (.iadd, 1) := by decide +kernel
theorem dL_law_1244 : decode cL_law 1244 = .ok (.iaload, 1) := by decide +kernel
theorem dL_law_1245 : decode cL_law 1245 = .ok (.aload_n 0, 1) := by decide +kernel
theorem dL_law_1246 : decode cL_law 1246 = .ok (.iload_n 3, 1) := by decide +kernel
theorem dL_law_1247 : decode cL_law 1247 = .ok (.iconst 2, 1) := by decide +kernel
theorem dL_law_1248 : decode cL_law 1248 = .ok (.iadd, 1) := by decide +kernel
theorem dL_law_1249 : decode cL_law 1249 = .ok (.iaload, 1) := by decide +kernel
theorem dL_law_1250 : decode cL_law 1250 = .ok (.invokevirtual 157, 3) := by decide +kernel
theorem dL_law_1253 : decode cL_law 1253 = .ok (.if_icmp .eq 90, 3) := by decide +kernel
theorem dL_law_1256 : decode cL_law 1256 = .ok (.iconst 0, 1) := by decide +kernel
theorem dL_law_1257 : decode cL_law 1257 = .ok (.ireturn, 1) := by decide +kernel
theorem dL_law_1258 : decode cL_law 1258 = .ok (.aload_n 1, 1) := by decide +kernel
theorem dL_law_1259 : decode cL_law 1259 = .ok (.invokevirtual 158, 3) := by decide +kernel
theorem dL_law_1262 : decode cL_law 1262 = .ok (.aload_n 2, 1) := by decide +kernel
theorem dL_law_1263 : decode cL_law 1263 = .ok (.invokevirtual 161, 3) := by decide +kernel
theorem dL_law_1266 : decode cL_law 1266 = .ok (.if_icmp .eq 77, 3) := by decide +kernel
theorem dL_law_1269 : decode cL_law 1269 = .ok (.iconst 0, 1) := by decide +kernel
theorem dL_law_1270 : decode cL_law 1270 = .ok (.ireturn, 1) := by decide +kernel
theorem dL_law_1271 : decode cL_law 1271 = .ok (.aload_n 1, 1) := by decide +kernel
theorem dL_law_1272 : decode cL_law 1272 = .ok (.invokevirtual 162, 3) := by decide +kernel
theorem dL_law_1275 : decode cL_law 1275 = .ok (.aload_n 2, 1) := by decide +kernel
theorem dL_law_1276 : decode cL_law 1276 = .ok (.invokevirtual 165, 3) := by decide +kernel
theorem dL_law_1279 : decode cL_law 1279 = .ok (.if_icmp .eq 64, 3) := by decide +kernel
theorem dL_law_1282 : decode cL_law 1282 = .ok (.iconst 0, 1) := by decide +kernel
theorem dL_law_1283 : decode cL_law 1283 = .ok (.ireturn, 1) := by decide +kernel
theorem dL_law_1284 : decode cL_law 1284 = .ok (.aload_n 1, 1) := by decide +kernel
theorem dL_law_1285 : decode cL_law 1285 = .ok (.invokevirtual 166, 3) := by decide +kernel
theorem dL_law_1288 : decode cL_law 1288 = .ok (.aload_n 2, 1) := by decide +kernel
theorem dL_law_1289 : decode cL_law 1289 = .ok (.invokevirtual 169, 3) := by decide +kernel
theorem dL_law_1292 : decode cL_law 1292 = .ok (.if_icmp .eq 51, 3) := by decide +kernel
theorem dL_law_1295 : decode cL_law 1295 = .ok (.iconst 0, 1) := by decide +kernel
theorem dL_law_1296 : decode cL_law 1296 = .ok (.ireturn, 1) := by decide +kernel
theorem dL_law_1297 : decode cL_law 1297 = .ok (.aload_n 1, 1) := by decide +kernel
theorem dL_law_1298 : decode cL_law 1298 = .ok (.aload_n 0, 1) := by decide +kernel
theorem dL_law_1299 : decode cL_law 1299 = .ok (.iload_n 3, 1) := by decide +kernel
theorem dL_law_1300 : decode cL_law 1300 = .ok (.iconst 1, 1) := by decide +kernel
theorem dL_law_1301 : decode cL_law 1301 = .ok (.iadd, 1) := by decide +kernel
theorem dL_law_1302 : decode cL_law 1302 = .ok (.iaload, 1) := by decide +kernel
theorem dL_law_1303 : decode cL_law 1303 = .ok (.invokevirtual 170, 3) := by decide +kernel
theorem dL_law_1306 : decode cL_law 1306 = .ok (.aload_n 2, 1) := by decide +kernel
theorem dL_law_1307 : decode cL_law 1307 = .ok (.aload_n 0, 1) := by decide +kernel
theorem dL_law_1308 : decode cL_law 1308 = .ok (.iload_n 3, 1) := by decide +kernel
theorem dL_law_1309 : decode cL_law 1309 = .ok (.iconst 1, 1) := by decide +kernel
theorem dL_law_1310 : decode cL_law 1310 = .ok (.iadd, 1) := by decide +kernel
theorem dL_law_1311 : decode cL_law 1311 = .ok (.iaload, 1) := by decide +kernel
theorem dL_law_1312 : decode cL_law 1312 = .ok (.invokevirtual 173, 3) := by decide +kernel
theorem dL_law_1315 : decode cL_law 1315 = .ok (.if_icmp .eq 28, 3) := by decide +kernel
theorem dL_law_1318 : decode cL_law 1318 = .ok (.iconst 0, 1) := by decide +kernel
theorem dL_law_1319 : decode cL_law 1319 = .ok (.ireturn, 1) := by decide +kernel
theorem dL_law_1320 : decode cL_law 1320 = .ok (.aload_n 1, 1) := by decide +kernel
theorem dL_law_1321 : decode cL_law 1321 = .ok (.aload_n 0, 1) := by decide +kernel
theorem dL_law_1322 : decode cL_law 1322 = .ok (.iload_n 3, 1) := by decide +kernel
theorem dL_law_1323 : decode cL_law 1323 = .ok (.iconst 1, 1) := by decide +kernel
theorem dL_law_1324 : decode cL_law 1324 = .ok (.iadd, 1) := by decide +kernel
theorem dL_law_1325 : decode cL_law 1325 = .ok (.iaload, 1) := by decide +kernel
theorem dL_law_1326 : decode cL_law 1326 = .ok (.invokevirtual 174, 3) := by decide +kernel
theorem dL_law_1329 : decode cL_law 1329 = .ok (.aload_n 2, 1) := by decide +kernel
theorem dL_law_1330 : decode cL_law 1330 = .ok (.aload_n 0, 1) := by decide +kernel
theorem dL_law_1331 : decode cL_law 1331 = .ok (.iload_n 3, 1) := by decide +kernel
theorem dL_law_1332 : decode cL_law 1332 = .ok (.iconst 1, 1) := by decide +kernel
theorem dL_law_1333 : decode cL_law 1333 = .ok (.iadd, 1) := by decide +kernel
theorem dL_law_1334 : decode cL_law 1334 = .ok (.iaload, 1) := by decide +kernel
theorem dL_law_1335 : decode cL_law 1335 = .ok (.invokevirtual 177, 3) := by decide +kernel
theorem dL_law_1338 : decode cL_law 1338 = .ok (.if_icmp .eq 5, 3) := by decide +kernel
theorem dL_law_1341 : decode cL_law 1341 = .ok (.iconst 0, 1) := by decide +kernel
theorem dL_law_1342 : decode cL_law 1342 = .ok (.ireturn, 1) := by decide +kernel
theorem dL_law_1343 : decode cL_law 1343 = .ok (.iinc 3 6, 3) := by decide +kernel
theorem dL_law_1346 : decode cL_law 1346 = .ok (.goto (-1328), 3) := by decide +kernel
theorem dL_law_1349 : decode cL_law 1349 = .ok (.iconst 1, 1) := by decide +kernel
theorem dL_law_1350 : decode cL_law 1350 = .ok (.ireturn, 1) := by decide +kernel
end
section
/-! numbers: Java's ints and longs out of integers -/
def iI (z : Int) : Int32 := Int32.ofInt z
def lI (z : Int) : Int64 := Int64.ofInt z
def iB (P : Prop) [Decidable P] : Int32 := if P then 1 else 0
def In32 (z : Int) : Prop := -2147483648 ≤ z ∧ z < 2147483648
theorem iI_toInt {z : Int} (h : In32 z) : (iI z).toInt = z := Int32.toInt_ofInt_of_le h.1 h.2
theorem iI_of (x : Int32) : iI x.toInt = x := Int32.ofInt_toInt x
theorem in32_of (x : Int32) : In32 x.toInt := ⟨Int32.le_toInt x, Int32.toInt_lt x⟩
theorem iI_add (a b : Int) : iI a + iI b = iI (a + b) := (Int32.ofInt_add a b).symm
theorem iI_sub (a b : Int) : iI a - iI b = iI (a - b) := (Int32.ofInt_sub a b).symm
theorem iI_mul (a b : Int) : iI a * iI b = iI (a * b) := (Int32.ofInt_mul a b).symm
theorem iI_neg (a : Int) : -iI a = iI (-a) := (Int32.ofInt_neg a).symm
theorem iI_lt {a b : Int} (ha : In32 a) (hb : In32 b) : iI a < iI b ↔ a < b := by rw [Int32.lt_iff_toInt_lt, iI_toInt ha, iI_toInt hb]
theorem iI_le {a b : Int} (ha : In32 a) (hb : In32 b) : iI a ≤ iI b ↔ a ≤ b := by rw [Int32.le_iff_toInt_le, iI_toInt ha, iI_toInt hb]
theorem iI_eq {a b : Int} (ha : In32 a) (hb : In32 b) : iI a = iI b ↔ a = b := by rw [← Int32.toInt_inj, iI_toInt ha, iI_toInt hb]
theorem iI_0 : iI 0 = 0 := rfl
theorem iI_nat (n : Nat) : iI (n : Int) = nI n := Int32.ofInt_eq_ofNat
theorem iI_clamp {z : Int} (h0 : 0 ≤ z) (h : z < 2147483648) : (iI z).toNatClampNeg = z.toNat := by
  obtain ⟨n, rfl⟩ := Int.eq_ofNat_of_zero_le h0
  rw [iI_nat, nI_clamp (by omega)]; rfl
theorem iI_ix {z : Int} {n : Nat} (h0 : 0 ≤ z) (h : z < n) (hn : n < 2147483648) : vp_in (iI z) n := by
  obtain ⟨j, rfl⟩ := Int.eq_ofNat_of_zero_le h0
  rw [iI_nat]; exact vp_in_nI (by omega) (by omega)
theorem iI_div {a b : Int} (h0 : 0 ≤ a) (h : a < 2147483648) (hb : 0 < b) (hb2 : b < 2147483648) : iI a / iI b = iI (a / b) := by
  obtain ⟨n, rfl⟩ := Int.eq_ofNat_of_zero_le h0
  obtain ⟨d, rfl⟩ := Int.eq_ofNat_of_zero_le (Int.le_of_lt hb)
  rw [iI_nat, iI_nat, pk_div (by omega) (by omega) (by omega)]
  exact (iI_nat _).symm
theorem iI_rem {a b : Int} (h0 : 0 ≤ a) (h : a < 2147483648) (hb : 0 < b) (hb2 : b < 2147483648) : iI a - iI a / iI b * iI b = iI (a % b) := by
  obtain ⟨n, rfl⟩ := Int.eq_ofNat_of_zero_le h0
  obtain ⟨d, rfl⟩ := Int.eq_ofNat_of_zero_le (Int.le_of_lt hb)
  rw [iI_nat, iI_nat, pk_rem (by omega) (by omega) (by omega)]
  exact (iI_nat _).symm
theorem iI_long {a : Int} (h : In32 a) : (iI a).toInt64 = lI a := Int64.toInt_inj.mp (by
  rw [Int32.toInt_toInt64, iI_toInt h]
  have h1 := h.1; have h2 := h.2
  exact (Int64.toInt_ofInt_of_le (by omega) (by omega)).symm)
def In64 (z : Int) : Prop := -9223372036854775808 ≤ z ∧ z < 9223372036854775808
theorem lI_toInt {z : Int} (h : In64 z) : (lI z).toInt = z := Int64.toInt_ofInt_of_le h.1 h.2
theorem lI_of (x : Int64) : lI x.toInt = x := Int64.ofInt_toInt x
theorem in64_of (x : Int64) : In64 x.toInt := ⟨Int64.le_toInt x, Int64.toInt_lt x⟩
theorem lI_eq {a b : Int} (ha : In64 a) (hb : In64 b) : lI a = lI b ↔ a = b := by rw [← Int64.toInt_inj, lI_toInt ha, lI_toInt hb]
theorem in64_32 {z : Int} (h : In32 z) : In64 z := ⟨by have := h.1; omega, by have := h.2; omega⟩
/-! arrays out of functions on integers -/
def arr (f : Int → Int) : Nat → Int32 := fun j => iI (f (j : Int))
def arL (f : Int → Int64) : Nat → Int64 := fun j => f (j : Int)
def up {α : Type} (f : Int → α) (z : Int) (v : α) : Int → α := fun k => if k = z then v else f k
theorem up_s {α : Type} (f : Int → α) (z : Int) (v : α) : up f z v z = v := if_pos rfl
theorem up_n {α : Type} {f : Int → α} {z k : Int} {v : α} (h : k ≠ z) : up f z v k = f k := if_neg h
theorem arr_at (f : Int → Int) {z : Int} (h : 0 ≤ z) : arr f z.toNat = iI (f z) := by
  show iI (f _) = _
  rw [Int.toNat_of_nonneg h]
theorem arL_at (f : Int → Int64) {z : Int} (h : 0 ≤ z) : arL f z.toNat = f z := by
  show f _ = _
  rw [Int.toNat_of_nonneg h]
theorem arr_up (f : Int → Int) {z : Int} (h : 0 ≤ z) (v : Int) : upd (arr f) z.toNat (iI v) = arr (up f z v) := by
  funext j
  show (if j = z.toNat then iI v else iI (f j)) = iI (if (j : Int) = z then v else f j)
  by_cases e : j = z.toNat
  · rw [if_pos e, if_pos (by omega)]
  · rw [if_neg e, if_neg (by omega)]
theorem arL_up (f : Int → Int64) {z : Int} (h : 0 ≤ z) (v : Int64) : vp_updL (arL f) z.toNat v = arL (up f z v) := by
  funext j
  show (if j = z.toNat then v else f j) = (if (j : Int) = z then v else f j)
  by_cases e : j = z.toNat
  · rw [if_pos e, if_pos (by omega)]
  · rw [if_neg e, if_neg (by omega)]
/-- a function on 0 .. n-1, 0 elsewhere -/
def cu (n : Int) (f : Int → Int) : Int → Int := fun i => if 0 ≤ i ∧ i < n then f i else 0
/-! one list of words for all methods -/
def TB : List Cond := lw_tbl.filter goodWord
theorem tb_in {w : Cond} (h : w ∈ TB) : w ∈ lw_tbl := (List.mem_filter.mp h).1
theorem tb_of {w : Cond} (h : w ∈ lw_tbl) (g : goodWord w = true) : w ∈ TB := List.mem_filter.mpr ⟨h, g⟩
theorem tb_t {w : Cond} (i : Nat) (h : tables_1[i]? = some w) (g : goodWord w = true) : w ∈ TB := tb_of (List.mem_append_right _ (List.mem_of_getElem? h)) g
theorem tb_s {w : Cond} (i : Nat) (h : (k2_sels lw_privs)[i]? = some w) (g : goodWord w = true) : w ∈ TB := tb_of (List.mem_append_left _ (List.mem_of_getElem? h)) g
theorem tb_good {big : List Cond} (hb : ∀ w ∈ TB, w ∈ big) {y : MethodName} {cc : ByteArray} {n : Nat} {r : Option FieldType} (h : Cond.code y cc n r ∈ TB) : GoodIn big (.code y cc n r :: TB) := by
  intro w hw
  have hw' : w ∈ TB := by
    rcases List.mem_cons.mp hw with rfl | h1
    · exact h
    · exact h1
  exact ⟨hb w hw', good_of_word (List.mem_filter.mp hw').2⟩
end
section
/-! the tables' words that a method may need of its nest; what holds at every entry -/
def NW : List Cond := [.methodLinkNest RX2 52 yX3_has "TrueMaps", .methodLinkNest RX2 68 yX3_beside "TrueMaps", .methodLinkNest RX2 86 yX3_leastOf "TrueMaps"]
def EV (D : va_G) (k : Nat → ClassId) (U : State) : Prop := va_K D vwCl [(k 0, .int), (k 1, .long), (k 2, .object RX0)] U ∧ ∀ w ∈ NW, va_Nw w U
theorem EV.warm {D : va_G} {k : Nat → ClassId} {s U : State} (hW : s.WarmedH U.vm) (h : EV D k s) : EV D k U := by
  refine ⟨va_K.moved hW.alike h.1, List.forall_mem_cons.mpr ⟨va_Nw.warmM hW (h.2 _ (List.mem_of_getElem? (i := 0) rfl)), List.forall_mem_cons.mpr ⟨va_Nw.warmM hW (h.2 _ (List.mem_of_getElem? (i := 1) rfl)), List.forall_mem_cons.mpr ⟨va_Nw.warmM hW (h.2 _ (List.mem_of_getElem? (i := 2) rfl)), fun _ q => absurd q List.not_mem_nil⟩⟩⟩⟩
theorem EV.call {D : va_G} {k : Nat → ClassId} {U : State} {g : JFrame} {mk : MethodId} {a : Array Value} (h : EV D k U) : EV D k (U.calling g mk a) := by
  refine ⟨va_K.moved (u := U) (Vm.Alike.refl U.vm) h.1, List.forall_mem_cons.mpr ⟨va_Nw.same (u := U) rfl rfl (h.2 _ (List.mem_of_getElem? (i := 0) rfl)), List.forall_mem_cons.mpr ⟨va_Nw.same (u := U) rfl rfl (h.2 _ (List.mem_of_getElem? (i := 1) rfl)), List.forall_mem_cons.mpr ⟨va_Nw.same (u := U) rfl rfl (h.2 _ (List.mem_of_getElem? (i := 2) rfl)), fun _ q => absurd q List.not_mem_nil⟩⟩⟩⟩
/-- what stays through a method's body -/
def Cx (p : Program) (s : State) (m : MethodId) (args : Array Value) (meth : Method) (c : Code) (cc : ByteArray) (nL : Nat) (own : String) (rt : Option FieldType) (D : va_G) (k : Nat → ClassId) : Prop :=
  CallFix p m c cc nL s args TB own ∧ EV D k s ∧ meth.sig.returnType = rt ∧ meth.locks = false
/-- the cells' addresses -/
def Ad (w : va_W) : Nat → Prop := fun q => ∃ (i : Nat) (e : va_E), w[i]? = some (q, e)
abbrev rM (fr lo : Nat) : Room := { frames := fr, cells := 0, slots := 0, locals := lo }
def qR (v : Value) : Array Value → State → Outcome → State → Prop := fun _ st oc t => oc = .returned (some v) ∧ t.heap = st.heap
def qW (D : va_G) (w w' : va_W) (ov : Option Value) : Array Value → State → Outcome → State → Prop := fun _ st oc t => oc = .returned ov ∧ va_P D vwCl w' t.heap ∧ va_F (Ad w) st t
/-- a method that reads the cells w alone, and answers v -/
def MR (l : Launch) (y : MethodName) (cc : ByteArray) (nL : Nat) (rt : Option FieldType) (fr lo : Nat) (D : va_G) (k : Nat → ClassId) (As : List Value) (w : va_W) (v : Value) : Prop :=
  Met l y (.code y cc nL rt :: TB) (rM fr lo) (va_Pc As (fun U => va_P D vwCl w U.heap ∧ EV D k U)) (qR v) 0 0 (fun _ => False)
/-- a method that makes w' of the cells w, touches no other, and answers ov -/
def MW (l : Launch) (y : MethodName) (cc : ByteArray) (nL : Nat) (rt : Option FieldType) (fr lo : Nat) (D : va_G) (k : Nat → ClassId) (As : List Value) (w w' : va_W) (ov : Option Value) : Prop :=
  Met l y (.code y cc nL rt :: TB) (rM fr lo) (va_Pc As (fun U => va_P D vwCl w U.heap ∧ EV D k U ∧ va_D (fun _ => True) w)) (qW D w w' ov) 0 0 (Ad w)
theorem MR.mk {l : Launch} {y : MethodName} {cc : ByteArray} {nL : Nat} {rt : Option FieldType} {fr lo : Nat} {D : va_G} {k : Nat → ClassId} {As : List Value} {w : va_W} {v : Value} (own : String) (ho : y.cls = own) (hy : plainName own = true) (hn : (lg_sl As).length ≤ nL)
    (body : ∀ (p : Program) (e : Env) (s : State) (m : MethodId) (below : List Frame) (meth : Method) (c : Code) (ls : Array Slot), Cx p s m As.toArray meth c cc nL own rt D k → va_P D vwCl w s.heap → lv_has ls nL (lv_args 0 As) → W p l e (rM fr lo) s m As.toArray below meth c s.heap [] 0 0 (MQ below (qR v) As.toArray s 0 0 (fun _ => False)) (F0 m 0 ls [])) : MR l y cc nL rt fr lo D k As w v := by
  subst ho
  refine Met.ofW (cc := cc) (maxL := nL) (ret := rt) hy rfl ?_
  intro p e s m args below meth c s₁ B hml hv
  obtain ⟨rfl, hP, hE⟩ := hv
  have hts := atoms_spec (ws := Cond.code y cc nL rt :: TB) B.pre
  have hl := lv_entry As hn
  rw [lg_entry_eq]
  exact body p e s m below meth c _ ⟨⟨B.exec, B.bytes, hml, findClass_of_methodNamed B.named, fun w h => hts w (List.mem_cons_of_mem _ h)⟩, hE, B.returns, B.notSynchronized⟩ hP hl
theorem MW.mk {l : Launch} {y : MethodName} {cc : ByteArray} {nL : Nat} {rt : Option FieldType} {fr lo : Nat} {D : va_G} {k : Nat → ClassId} {As : List Value} {w w' : va_W} {ov : Option Value} (own : String) (ho : y.cls = own) (hy : plainName own = true) (hn : (lg_sl As).length ≤ nL)
    (body : ∀ (p : Program) (e : Env) (s : State) (m : MethodId) (below : List Frame) (meth : Method) (c : Code) (ls : Array Slot), Cx p s m As.toArray meth c cc nL own rt D k → va_P D vwCl w s.heap → va_D (Ad w) w → va_S (Ad w) s.heap s.heap [] → lv_has ls nL (lv_args 0 As) → W p l e (rM fr lo) s m As.toArray below meth c s.heap [] 0 0 (MQ below (qW D w w' ov) As.toArray s 0 0 (Ad w)) (F0 m 0 ls [])) : MW l y cc nL rt fr lo D k As w w' ov := by
  subst ho
  refine Met.ofW (cc := cc) (maxL := nL) (ret := rt) hy rfl ?_
  intro p e s m args below meth c s₁ B hml hv
  obtain ⟨rfl, hP, hE, hD⟩ := hv
  have hts := atoms_spec (ws := Cond.code y cc nL rt :: TB) B.pre
  have hl := lv_entry As hn
  rw [lg_entry_eq]
  exact body p e s m below meth c _ ⟨⟨B.exec, B.bytes, hml, findClass_of_methodNamed B.named, fun w h => hts w (List.mem_cons_of_mem _ h)⟩, hE, B.returns, B.notSynchronized⟩ hP ⟨hD.1, fun i q hq => ⟨i, q.2, hq⟩⟩ va_S.rf hl
theorem lg_cmpI {a b : Int} (ha : In64 a) (hb : In64 b) : lg_cmp (lI a) (lI b) = (if a < b then -1 else if a = b then 0 else 1 : Int32) := by
  unfold lg_cmp
  simp only [gt_iff_lt, Int64.lt_iff_toInt_lt, lI_eq ha hb, lI_toInt ha, lI_toInt hb]
  split <;> split <;> (try split) <;> first | rfl | omega
section RW
variable {p : Program} {l : Launch} {e : Env} {R : Room} {s : State} {m : MethodId} {args : Array Value} {below : List Frame} {meth : Method} {c : Code} {H : Heap} {locs : List Loc} {cells slots : Nat} {Q : State → Prop}
variable {cc : ByteArray} {nL : Nat} {own : String} {rt : Option FieldType} {D : va_G} {k : Nat → ClassId} {pc : Nat} {ls : Array Slot} {rest : List Value} {w : va_W} {A : Nat → Prop} {H0 : Heap}
theorem r_iconst (C : Cx p s m args meth c cc nL own rt D k) {n : Int} (hd : decode cc pc = .ok (.iconst n, 1)) (kk : W p l e R s m args below meth c H locs cells slots Q (F0 m (pc + 1) ls (.int (iI n) :: rest))) : W p l e R s m args below meth c H locs cells slots Q (F0 m (pc) ls (rest)) := lv_iconst C.1.1 C.1.2.1 hd rfl kk
theorem r_bipush (C : Cx p s m args meth c cc nL own rt D k) {n : Int} (hd : decode cc pc = .ok (.bipush n, 2)) (hv : (Int8.ofInt n).toInt32 = iI n) (kk : W p l e R s m args below meth c H locs cells slots Q (F0 m (pc + 2) ls (.int (iI n) :: rest))) : W p l e R s m args below meth c H locs cells slots Q (F0 m (pc) ls (rest)) := lv_bipush C.1.1 C.1.2.1 hd hv kk
theorem r_sipush (C : Cx p s m args meth c cc nL own rt D k) {n : Int} (hd : decode cc pc = .ok (.sipush n, 3)) (hv : (Int16.ofInt n).toInt32 = iI n) (kk : W p l e R s m args below meth c H locs cells slots Q (F0 m (pc + 3) ls (.int (iI n) :: rest))) : W p l e R s m args below meth c H locs cells slots Q (F0 m (pc) ls (rest)) := lv_sipush C.1.1 C.1.2.1 hd hv kk
theorem r_lconst (C : Cx p s m args meth c cc nL own rt D k) {n : Fin 2} {z : Int} (hd : decode cc pc = .ok (.lconst n, 1)) (hv : Int64.ofNat (n : Nat) = lI z) (kk : W p l e R s m args below meth c H locs cells slots Q (F0 m (pc + 1) ls (.long (lI z) :: rest))) : W p l e R s m args below meth c H locs cells slots Q (F0 m (pc) ls (rest)) := lv_lconst C.1.1 C.1.2.1 hd hv kk
theorem r_ldc (C : Cx p s m args meth c cc nL own rt D k) {i : Nat} {v : Int32} (n : Int) (hw : Cond.constant own i v ∈ TB) (hv : v = iI n) (hd : decode cc pc = .ok (.ldc i, 2)) (kk : W p l e R s m args below meth c H locs cells slots Q (F0 m (pc + 2) ls (.int (iI n) :: rest))) : W p l e R s m args below meth c H locs cells slots Q (F0 m (pc) ls (rest)) := by
  subst hv
  exact lv_ldc C.1.1 C.1.2.1 C.1.2.2.2.1 (C.1.2.2.2.2 _ hw) hd kk
theorem r_ldcw (C : Cx p s m args meth c cc nL own rt D k) {i : Nat} {v : Int32} (n : Int) (hw : Cond.constant own i v ∈ TB) (hv : v = iI n) (hd : decode cc pc = .ok (.ldc_w i, 3)) (kk : W p l e R s m args below meth c H locs cells slots Q (F0 m (pc + 3) ls (.int (iI n) :: rest))) : W p l e R s m args below meth c H locs cells slots Q (F0 m (pc) ls (rest)) := by
  subst hv
  exact lv_ldcw C.1.1 C.1.2.1 C.1.2.2.2.1 (C.1.2.2.2.2 _ hw) hd kk
theorem r_ldc2 (C : Cx p s m args meth c cc nL own rt D k) {i : Nat} {v : Int64} (n : Int) (hw : Cond.constantLong own i v ∈ TB) (hv : v = lI n) (hd : decode cc pc = .ok (.ldc2_w i, 3)) (kk : W p l e R s m args below meth c H locs cells slots Q (F0 m (pc + 3) ls (.long (lI n) :: rest))) : W p l e R s m args below meth c H locs cells slots Q (F0 m (pc) ls (rest)) := by
  subst hv
  exact lv_ldc2 C.1.1 C.1.2.1 C.1.2.2.2.1 (C.1.2.2.2.2 _ hw) hd kk
theorem r_iload_n (C : Cx p s m args meth c cc nL own rt D k) {j : Fin 4} {i : Nat} {x : Int32} (hd : decode cc pc = .ok (.iload_n j, 1)) (hi : (j : Nat) = i) (hl : ls[i]? = some (.val (.int x))) (kk : W p l e R s m args below meth c H locs cells slots Q (F0 m (pc + 1) ls (.int x :: rest))) : W p l e R s m args below meth c H locs cells slots Q (F0 m (pc) ls (rest)) := lv_iload_n C.1.1 C.1.2.1 hd hi hl kk
theorem r_iload (C : Cx p s m args meth c cc nL own rt D k) {i : Nat} {x : Int32} (hd : decode cc pc = .ok (.iload i, 2)) (hl : ls[i]? = some (.val (.int x))) (kk : W p l e R s m args below meth c H locs cells slots Q (F0 m (pc + 2) ls (.int x :: rest))) : W p l e R s m args below meth c H locs cells slots Q (F0 m (pc) ls (rest)) := lv_iload C.1.1 C.1.2.1 hd hl kk
theorem r_lload_n (C : Cx p s m args meth c cc nL own rt D k) {j : Fin 4} {i : Nat} {x : Int64} (hd : decode cc pc = .ok (.lload_n j, 1)) (hi : (j : Nat) = i) (hl : ls[i]? = some (.val (.long x))) (kk : W p l e R s m args below meth c H locs cells slots Q (F0 m (pc + 1) ls (.long x :: rest))) : W p l e R s m args below meth c H locs cells slots Q (F0 m (pc) ls (rest)) := lv_lload_n C.1.1 C.1.2.1 hd hi hl kk
theorem r_lload (C : Cx p s m args meth c cc nL own rt D k) {i : Nat} {x : Int64} (hd : decode cc pc = .ok (.lload i, 2)) (hl : ls[i]? = some (.val (.long x))) (kk : W p l e R s m args below meth c H locs cells slots Q (F0 m (pc + 2) ls (.long x :: rest))) : W p l e R s m args below meth c H locs cells slots Q (F0 m (pc) ls (rest)) := lv_lload C.1.1 C.1.2.1 hd hl kk
theorem r_aload_n (C : Cx p s m args meth c cc nL own rt D k) {j : Fin 4} {i : Nat} {x : Nat} (hd : decode cc pc = .ok (.aload_n j, 1)) (hi : (j : Nat) = i) (hl : ls[i]? = some (.val (.ref x))) (kk : W p l e R s m args below meth c H locs cells slots Q (F0 m (pc + 1) ls (.ref x :: rest))) : W p l e R s m args below meth c H locs cells slots Q (F0 m (pc) ls (rest)) := lv_aload_n C.1.1 C.1.2.1 hd hi hl kk
theorem r_aload (C : Cx p s m args meth c cc nL own rt D k) {i : Nat} {x : Nat} (hd : decode cc pc = .ok (.aload i, 2)) (hl : ls[i]? = some (.val (.ref x))) (kk : W p l e R s m args below meth c H locs cells slots Q (F0 m (pc + 2) ls (.ref x :: rest))) : W p l e R s m args below meth c H locs cells slots Q (F0 m (pc) ls (rest)) := lv_aload C.1.1 C.1.2.1 hd hl kk
-- istore
-- lstore
-- astore
theorem r_istore_n (C : Cx p s m args meth c cc nL own rt D k) {j : Fin 4} {i : Nat} {x : Int32} {lv : List (Nat × Value)} (lv1 : List (Nat × Value)) (hd : decode cc pc = .ok (.istore_n j, 1)) (hi : (j : Nat) = i) (hl : lv_has ls nL lv) (hn : i < nL) (hq : (i, Value.int x) :: lv.filter (fun q => !(q.1 == i) && !(q.1 + 1 == i && q.2.category == 2)) = lv1) (kk : ∀ ls1 : Array Slot, lv_has ls1 nL lv1 → W p l e R s m args below meth c H locs cells slots Q (F0 m (pc + 1) ls1 rest)) : W p l e R s m args below meth c H locs cells slots Q (F0 m (pc) ls (.int x :: rest)) := lv_istore_n C.1.1 C.1.2.1 hd hi hl hn hq kk
theorem r_istore (C : Cx p s m args meth c cc nL own rt D k) {i : Nat} {x : Int32} {lv : List (Nat × Value)} (lv1 : List (Nat × Value)) (hd : decode cc pc = .ok (.istore i, 2)) (hl : lv_has ls nL lv) (hn : i < nL) (hq : (i, Value.int x) :: lv.filter (fun q => !(q.1 == i) && !(q.1 + 1 == i && q.2.category == 2)) = lv1) (kk : ∀ ls1 : Array Slot, lv_has ls1 nL lv1 → W p l e R s m args below meth c H locs cells slots Q (F0 m (pc + 2) ls1 rest)) : W p l e R s m args below meth c H locs cells slots Q (F0 m (pc) ls (.int x :: rest)) := lv_istore C.1.1 C.1.2.1 hd hl hn hq kk
theorem r_iinc (C : Cx p s m args meth c cc nL own rt D k) {i : Nat} {n a : Int} {lv : List (Nat × Value)} (j : Nat) (lv1 : List (Nat × Value)) (hd : decode cc pc = .ok (.iinc i n, 3)) (hl : lv_has ls nL lv) (hj : lv[j]? = some (i, .int (iI a))) (hn : i < nL) (hq : (i, Value.int (iI (a + n))) :: lv.filter (fun q => !(q.1 == i) && !(q.1 + 1 == i && q.2.category == 2)) = lv1) (kk : ∀ ls1 : Array Slot, lv_has ls1 nL lv1 → W p l e R s m args below meth c H locs cells slots Q (F0 m (pc + 3) ls1 rest)) : W p l e R s m args below meth c H locs cells slots Q (F0 m (pc) ls (rest)) := lv_iinc C.1.1 C.1.2.1 hd hl hj (iI_add a n) hn hq kk
theorem r_lstore_n (C : Cx p s m args meth c cc nL own rt D k) {j : Fin 4} {i : Nat} {x : Int64} {lv : List (Nat × Value)} (lv1 : List (Nat × Value)) (hd : decode cc pc = .ok (.lstore_n j, 1)) (hi : (j : Nat) = i) (hl : lv_has ls nL lv) (hn : i + 1 < nL) (hq : (i, Value.long x) :: lv.filter (fun q => !(q.1 == i) && (!(q.1 == i + 1) && !(q.1 + 1 == i && q.2.category == 2))) = lv1) (kk : ∀ ls1 : Array Slot, lv_has ls1 nL lv1 → W p l e R s m args below meth c H locs cells slots Q (F0 m (pc + 1) ls1 rest)) : W p l e R s m args below meth c H locs cells slots Q (F0 m (pc) ls (.long x :: rest)) := lv_lstore_n C.1.1 C.1.2.1 hd hi hl hn hq kk
theorem r_lstore (C : Cx p s m args meth c cc nL own rt D k) {i : Nat} {x : Int64} {lv : List (Nat × Value)} (lv1 : List (Nat × Value)) (hd : decode cc pc = .ok (.lstore i, 2)) (hl : lv_has ls nL lv) (hn : i + 1 < nL) (hq : (i, Value.long x) :: lv.filter (fun q => !(q.1 == i) && (!(q.1 == i + 1) && !(q.1 + 1 == i && q.2.category == 2))) = lv1) (kk : ∀ ls1 : Array Slot, lv_has ls1 nL lv1 → W p l e R s m args below meth c H locs cells slots Q (F0 m (pc + 2) ls1 rest)) : W p l e R s m args below meth c H locs cells slots Q (F0 m (pc) ls (.long x :: rest)) := lv_lstore C.1.1 C.1.2.1 hd hl hn hq kk
theorem r_astore_n (C : Cx p s m args meth c cc nL own rt D k) {j : Fin 4} {i : Nat} {x : Nat} {lv : List (Nat × Value)} (lv1 : List (Nat × Value)) (hd : decode cc pc = .ok (.astore_n j, 1)) (hi : (j : Nat) = i) (hl : lv_has ls nL lv) (hn : i < nL) (hq : (i, Value.ref x) :: lv.filter (fun q => !(q.1 == i) && !(q.1 + 1 == i && q.2.category == 2)) = lv1) (kk : ∀ ls1 : Array Slot, lv_has ls1 nL lv1 → W p l e R s m args below meth c H locs cells slots Q (F0 m (pc + 1) ls1 rest)) : W p l e R s m args below meth c H locs cells slots Q (F0 m (pc) ls (.ref x :: rest)) := lv_astore_n C.1.1 C.1.2.1 hd hi hl hn hq kk
theorem r_astore (C : Cx p s m args meth c cc nL own rt D k) {i : Nat} {x : Nat} {lv : List (Nat × Value)} (lv1 : List (Nat × Value)) (hd : decode cc pc = .ok (.astore i, 2)) (hl : lv_has ls nL lv) (hn : i < nL) (hq : (i, Value.ref x) :: lv.filter (fun q => !(q.1 == i) && !(q.1 + 1 == i && q.2.category == 2)) = lv1) (kk : ∀ ls1 : Array Slot, lv_has ls1 nL lv1 → W p l e R s m args below meth c H locs cells slots Q (F0 m (pc + 2) ls1 rest)) : W p l e R s m args below meth c H locs cells slots Q (F0 m (pc) ls (.ref x :: rest)) := lv_astore C.1.1 C.1.2.1 hd hl hn hq kk
theorem r_iadd (C : Cx p s m args meth c cc nL own rt D k) {a b : Int} (hd : decode cc pc = .ok (.iadd, 1)) (kk : W p l e R s m args below meth c H locs cells slots Q (F0 m (pc + 1) ls (.int (iI (a + b)) :: rest))) : W p l e R s m args below meth c H locs cells slots Q (F0 m (pc) ls (.int (iI b) :: .int (iI a) :: rest)) := lv_iadd C.1.1 C.1.2.1 hd (by rw [iI_add]; exact kk)
theorem r_isub (C : Cx p s m args meth c cc nL own rt D k) {a b : Int} (hd : decode cc pc = .ok (.isub, 1)) (kk : W p l e R s m args below meth c H locs cells slots Q (F0 m (pc + 1) ls (.int (iI (a - b)) :: rest))) : W p l e R s m args below meth c H locs cells slots Q (F0 m (pc) ls (.int (iI b) :: .int (iI a) :: rest)) := lv_isub C.1.1 C.1.2.1 hd (by rw [iI_sub]; exact kk)
theorem r_imul (C : Cx p s m args meth c cc nL own rt D k) {a b : Int} (hd : decode cc pc = .ok (.imul, 1)) (kk : W p l e R s m args below meth c H locs cells slots Q (F0 m (pc + 1) ls (.int (iI (a * b)) :: rest))) : W p l e R s m args below meth c H locs cells slots Q (F0 m (pc) ls (.int (iI b) :: .int (iI a) :: rest)) := lv_imul C.1.1 C.1.2.1 hd (by rw [iI_mul]; exact kk)
theorem r_ineg (C : Cx p s m args meth c cc nL own rt D k) {a : Int} (hd : decode cc pc = .ok (.ineg, 1)) (kk : W p l e R s m args below meth c H locs cells slots Q (F0 m (pc + 1) ls (.int (iI (-a)) :: rest))) : W p l e R s m args below meth c H locs cells slots Q (F0 m (pc) ls (.int (iI a) :: rest)) := lv_ineg C.1.1 C.1.2.1 hd (by rw [iI_neg]; exact kk)
theorem r_idiv (C : Cx p s m args meth c cc nL own rt D k) {a b : Int} (hd : decode cc pc = .ok (.idiv, 1)) (h0 : 0 ≤ a) (h : a < 2147483648) (hb : 0 < b) (hb2 : b < 2147483648) (kk : W p l e R s m args below meth c H locs cells slots Q (F0 m (pc + 1) ls (.int (iI (a / b)) :: rest))) : W p l e R s m args below meth c H locs cells slots Q (F0 m (pc) ls (.int (iI b) :: .int (iI a) :: rest)) := lv_idiv C.1.1 C.1.2.1 hd (fun q => by have := (iI_eq (a := b) (b := 0) ⟨by omega, by omega⟩ ⟨by omega, by omega⟩).mp q; omega) (by rw [iI_div h0 h hb hb2]; exact kk)
theorem r_irem (C : Cx p s m args meth c cc nL own rt D k) {a b : Int} (hd : decode cc pc = .ok (.irem, 1)) (h0 : 0 ≤ a) (h : a < 2147483648) (hb : 0 < b) (hb2 : b < 2147483648) (kk : W p l e R s m args below meth c H locs cells slots Q (F0 m (pc + 1) ls (.int (iI (a % b)) :: rest))) : W p l e R s m args below meth c H locs cells slots Q (F0 m (pc) ls (.int (iI b) :: .int (iI a) :: rest)) := lv_irem C.1.1 C.1.2.1 hd (fun q => by have := (iI_eq (a := b) (b := 0) ⟨by omega, by omega⟩ ⟨by omega, by omega⟩).mp q; omega) (by rw [iI_rem h0 h hb hb2]; exact kk)
theorem r_i2l (C : Cx p s m args meth c cc nL own rt D k) {a : Int} (hd : decode cc pc = .ok (.i2l, 1)) (ha : In32 a) (kk : W p l e R s m args below meth c H locs cells slots Q (F0 m (pc + 1) ls (.long (lI a) :: rest))) : W p l e R s m args below meth c H locs cells slots Q (F0 m (pc) ls (.int (iI a) :: rest)) := lv_i2l C.1.1 C.1.2.1 hd (iI_long ha) kk
theorem r_goto (C : Cx p s m args meth c cc nL own rt D k) {off : Int} {tgt : Nat} (hd : decode cc pc = .ok (.goto off, 3)) (ht : (pc : Int) + off = (tgt : Int)) (kk : W p l e R s m args below meth c H locs cells slots Q (F0 m (tgt) ls (rest))) : W p l e R s m args below meth c H locs cells slots Q (F0 m (pc) ls (rest)) := lv_goto C.1.1 C.1.2.1 hd ht kk
theorem r_dup (C : Cx p s m args meth c cc nL own rt D k) {v : Value} (hd : decode cc pc = .ok (.dup, 1)) (hv : v.category = 1) (kk : W p l e R s m args below meth c H locs cells slots Q (F0 m (pc + 1) ls (v :: v :: rest))) : W p l e R s m args below meth c H locs cells slots Q (F0 m (pc) ls (v :: rest)) := lv_dup C.1.1 C.1.2.1 hd hv kk
theorem r_dup2 (C : Cx p s m args meth c cc nL own rt D k) {v u : Value} (hd : decode cc pc = .ok (.dup2, 1)) (hv : v.category = 1) (hu : u.category = 1) (kk : W p l e R s m args below meth c H locs cells slots Q (F0 m (pc + 1) ls (v :: u :: v :: u :: rest))) : W p l e R s m args below meth c H locs cells slots Q (F0 m (pc) ls (v :: u :: rest)) := lv_dup2_11 C.1.1 C.1.2.1 hd hv hu kk
theorem r_pop (C : Cx p s m args meth c cc nL own rt D k) {v : Value} (hd : decode cc pc = .ok (.pop, 1)) (hv : v.category = 1) (kk : W p l e R s m args below meth c H locs cells slots Q (F0 m (pc + 1) ls (rest))) : W p l e R s m args below meth c H locs cells slots Q (F0 m (pc) ls (v :: rest)) := lv_pop C.1.1 C.1.2.1 hd hv kk
theorem r_icmp_lt (C : Cx p s m args meth c cc nL own rt D k) {a b off : Int} {tgt : Nat} (hd : decode cc pc = .ok (.if_icmp .lt off, 3)) (ht : (pc : Int) + off = (tgt : Int)) (ha : In32 a) (hb : In32 b) (kt : a < b → W p l e R s m args below meth c H locs cells slots Q (F0 m (tgt) ls (rest))) (kf : ¬ a < b → W p l e R s m args below meth c H locs cells slots Q (F0 m (pc + 3) ls (rest))) : W p l e R s m args below meth c H locs cells slots Q (F0 m (pc) ls (.int (iI b) :: .int (iI a) :: rest)) := lv_icmp_lt C.1.1 C.1.2.1 hd ht (fun h => kt ((iI_lt ha hb).mp h)) (fun h => kf (fun q => h ((iI_lt ha hb).mpr q)))
theorem r_if_lt (C : Cx p s m args meth c cc nL own rt D k) {a off : Int} {tgt : Nat} (hd : decode cc pc = .ok (.ifCond .lt off, 3)) (ht : (pc : Int) + off = (tgt : Int)) (ha : In32 a) (kt : a < 0 → W p l e R s m args below meth c H locs cells slots Q (F0 m (tgt) ls (rest))) (kf : ¬ a < 0 → W p l e R s m args below meth c H locs cells slots Q (F0 m (pc + 3) ls (rest))) : W p l e R s m args below meth c H locs cells slots Q (F0 m (pc) ls (.int (iI a) :: rest)) := lv_if_lt C.1.1 C.1.2.1 hd ht (fun h => kt ((iI_lt (b := 0) ha ⟨by decide, by decide⟩).mp h)) (fun h => kf (fun q => h ((iI_lt (b := 0) ha ⟨by decide, by decide⟩).mpr q)))
theorem r_icmp_le (C : Cx p s m args meth c cc nL own rt D k) {a b off : Int} {tgt : Nat} (hd : decode cc pc = .ok (.if_icmp .le off, 3)) (ht : (pc : Int) + off = (tgt : Int)) (ha : In32 a) (hb : In32 b) (kt : a ≤ b → W p l e R s m args below meth c H locs cells slots Q (F0 m (tgt) ls (rest))) (kf : ¬ a ≤ b → W p l e R s m args below meth c H locs cells slots Q (F0 m (pc + 3) ls (rest))) : W p l e R s m args below meth c H locs cells slots Q (F0 m (pc) ls (.int (iI b) :: .int (iI a) :: rest)) := lv_icmp_le C.1.1 C.1.2.1 hd ht (fun h => kt ((iI_le ha hb).mp h)) (fun h => kf (fun q => h ((iI_le ha hb).mpr q)))
theorem r_if_le (C : Cx p s m args meth c cc nL own rt D k) {a off : Int} {tgt : Nat} (hd : decode cc pc = .ok (.ifCond .le off, 3)) (ht : (pc : Int) + off = (tgt : Int)) (ha : In32 a) (kt : a ≤ 0 → W p l e R s m args below meth c H locs cells slots Q (F0 m (tgt) ls (rest))) (kf : ¬ a ≤ 0 → W p l e R s m args below meth c H locs cells slots Q (F0 m (pc + 3) ls (rest))) : W p l e R s m args below meth c H locs cells slots Q (F0 m (pc) ls (.int (iI a) :: rest)) := lv_if_le C.1.1 C.1.2.1 hd ht (fun h => kt ((iI_le (b := 0) ha ⟨by decide, by decide⟩).mp h)) (fun h => kf (fun q => h ((iI_le (b := 0) ha ⟨by decide, by decide⟩).mpr q)))
theorem r_icmp_eq (C : Cx p s m args meth c cc nL own rt D k) {a b off : Int} {tgt : Nat} (hd : decode cc pc = .ok (.if_icmp .eq off, 3)) (ht : (pc : Int) + off = (tgt : Int)) (ha : In32 a) (hb : In32 b) (kt : a = b → W p l e R s m args below meth c H locs cells slots Q (F0 m (tgt) ls (rest))) (kf : ¬ a = b → W p l e R s m args below meth c H locs cells slots Q (F0 m (pc + 3) ls (rest))) : W p l e R s m args below meth c H locs cells slots Q (F0 m (pc) ls (.int (iI b) :: .int (iI a) :: rest)) := lv_icmp_eq C.1.1 C.1.2.1 hd ht (fun h => kt ((iI_eq ha hb).mp h)) (fun h => kf (fun q => h ((iI_eq ha hb).mpr q)))
theorem r_if_eq (C : Cx p s m args meth c cc nL own rt D k) {a off : Int} {tgt : Nat} (hd : decode cc pc = .ok (.ifCond .eq off, 3)) (ht : (pc : Int) + off = (tgt : Int)) (ha : In32 a) (kt : a = 0 → W p l e R s m args below meth c H locs cells slots Q (F0 m (tgt) ls (rest))) (kf : ¬ a = 0 → W p l e R s m args below meth c H locs cells slots Q (F0 m (pc + 3) ls (rest))) : W p l e R s m args below meth c H locs cells slots Q (F0 m (pc) ls (.int (iI a) :: rest)) := lv_if_eq C.1.1 C.1.2.1 hd ht (fun h => kt ((iI_eq (b := 0) ha ⟨by decide, by decide⟩).mp h)) (fun h => kf (fun q => h ((iI_eq (b := 0) ha ⟨by decide, by decide⟩).mpr q)))
theorem r_icmp_gt (C : Cx p s m args meth c cc nL own rt D k) {a b off : Int} {tgt : Nat} (hd : decode cc pc = .ok (.if_icmp .gt off, 3)) (ht : (pc : Int) + off = (tgt : Int)) (ha : In32 a) (hb : In32 b) (kt : b < a → W p l e R s m args below meth c H locs cells slots Q (F0 m (tgt) ls (rest))) (kf : ¬ b < a → W p l e R s m args below meth c H locs cells slots Q (F0 m (pc + 3) ls (rest))) : W p l e R s m args below meth c H locs cells slots Q (F0 m (pc) ls (.int (iI b) :: .int (iI a) :: rest)) := lv_icmp_gt C.1.1 C.1.2.1 hd ht (fun h => kt ((iI_lt hb ha).mp h)) (fun h => kf (fun q => h ((iI_lt hb ha).mpr q)))
theorem r_icmp_ge (C : Cx p s m args meth c cc nL own rt D k) {a b off : Int} {tgt : Nat} (hd : decode cc pc = .ok (.if_icmp .ge off, 3)) (ht : (pc : Int) + off = (tgt : Int)) (ha : In32 a) (hb : In32 b) (kt : ¬ a < b → W p l e R s m args below meth c H locs cells slots Q (F0 m (tgt) ls (rest))) (kf : a < b → W p l e R s m args below meth c H locs cells slots Q (F0 m (pc + 3) ls (rest))) : W p l e R s m args below meth c H locs cells slots Q (F0 m (pc) ls (.int (iI b) :: .int (iI a) :: rest)) := lv_icmp_ge C.1.1 C.1.2.1 hd ht (fun h => kt (fun q => by have := (iI_le hb ha).mp h; omega)) (fun h => kf (by by_cases q : a < b; exact q; exact absurd ((iI_le hb ha).mpr (by omega)) h))
theorem r_icmp_ne (C : Cx p s m args meth c cc nL own rt D k) {a b off : Int} {tgt : Nat} (hd : decode cc pc = .ok (.if_icmp .ne off, 3)) (ht : (pc : Int) + off = (tgt : Int)) (ha : In32 a) (hb : In32 b) (kt : ¬ a = b → W p l e R s m args below meth c H locs cells slots Q (F0 m (tgt) ls (rest))) (kf : a = b → W p l e R s m args below meth c H locs cells slots Q (F0 m (pc + 3) ls (rest))) : W p l e R s m args below meth c H locs cells slots Q (F0 m (pc) ls (.int (iI b) :: .int (iI a) :: rest)) := lv_icmp_ne C.1.1 C.1.2.1 hd ht (fun h => kt (fun q => h (by rw [q]))) (fun h => kf ((iI_eq ha hb).mp h))
theorem r_if_gt (C : Cx p s m args meth c cc nL own rt D k) {a off : Int} {tgt : Nat} (hd : decode cc pc = .ok (.ifCond .gt off, 3)) (ht : (pc : Int) + off = (tgt : Int)) (ha : In32 a) (kt : 0 < a → W p l e R s m args below meth c H locs cells slots Q (F0 m (tgt) ls (rest))) (kf : ¬ 0 < a → W p l e R s m args below meth c H locs cells slots Q (F0 m (pc + 3) ls (rest))) : W p l e R s m args below meth c H locs cells slots Q (F0 m (pc) ls (.int (iI a) :: rest)) := lv_if_gt C.1.1 C.1.2.1 hd ht (fun h => kt ((iI_lt (a := 0) ⟨by decide, by decide⟩ ha).mp h)) (fun h => kf (fun q => h ((iI_lt (a := 0) ⟨by decide, by decide⟩ ha).mpr q)))
theorem r_if_ge (C : Cx p s m args meth c cc nL own rt D k) {a off : Int} {tgt : Nat} (hd : decode cc pc = .ok (.ifCond .ge off, 3)) (ht : (pc : Int) + off = (tgt : Int)) (ha : In32 a) (kt : ¬ a < 0 → W p l e R s m args below meth c H locs cells slots Q (F0 m (tgt) ls (rest))) (kf : a < 0 → W p l e R s m args below meth c H locs cells slots Q (F0 m (pc + 3) ls (rest))) : W p l e R s m args below meth c H locs cells slots Q (F0 m (pc) ls (.int (iI a) :: rest)) := lv_if_ge C.1.1 C.1.2.1 hd ht (fun h => kt (fun q => by have := (iI_le (a := 0) ⟨by decide, by decide⟩ ha).mp h; omega)) (fun h => kf (by by_cases q : a < 0; exact q; exact absurd ((iI_le (a := 0) ⟨by decide, by decide⟩ ha).mpr (by omega)) h))
theorem r_if_ne (C : Cx p s m args meth c cc nL own rt D k) {a off : Int} {tgt : Nat} (hd : decode cc pc = .ok (.ifCond .ne off, 3)) (ht : (pc : Int) + off = (tgt : Int)) (ha : In32 a) (kt : ¬ a = 0 → W p l e R s m args below meth c H locs cells slots Q (F0 m (tgt) ls (rest))) (kf : a = 0 → W p l e R s m args below meth c H locs cells slots Q (F0 m (pc + 3) ls (rest))) : W p l e R s m args below meth c H locs cells slots Q (F0 m (pc) ls (.int (iI a) :: rest)) := lv_if_ne C.1.1 C.1.2.1 hd ht (fun h => kt (fun q => h (by rw [q]; rfl))) (fun h => kf ((iI_eq (b := 0) ha ⟨by decide, by decide⟩).mp h))
theorem r_ifB_eq (C : Cx p s m args meth c cc nL own rt D k) {P : Prop} [Decidable P] {off : Int} {tgt : Nat} (hd : decode cc pc = .ok (.ifCond .eq off, 3)) (ht : (pc : Int) + off = (tgt : Int)) (kt : ¬ P → W p l e R s m args below meth c H locs cells slots Q (F0 m (tgt) ls (rest))) (kf : P → W p l e R s m args below meth c H locs cells slots Q (F0 m (pc + 3) ls (rest))) : W p l e R s m args below meth c H locs cells slots Q (F0 m (pc) ls (.int (iB P) :: rest)) := lv_if_eq C.1.1 C.1.2.1 hd ht (fun h => kt (fun q => by rw [iB, if_pos q] at h; exact absurd h (by decide))) (fun h => kf (by by_cases q : P; exact q; exact absurd (by rw [iB, if_neg q]) h))
theorem r_ifB_ne (C : Cx p s m args meth c cc nL own rt D k) {P : Prop} [Decidable P] {off : Int} {tgt : Nat} (hd : decode cc pc = .ok (.ifCond .ne off, 3)) (ht : (pc : Int) + off = (tgt : Int)) (kt : P → W p l e R s m args below meth c H locs cells slots Q (F0 m (tgt) ls (rest))) (kf : ¬ P → W p l e R s m args below meth c H locs cells slots Q (F0 m (pc + 3) ls (rest))) : W p l e R s m args below meth c H locs cells slots Q (F0 m (pc) ls (.int (iB P) :: rest)) := lv_if_ne C.1.1 C.1.2.1 hd ht (fun h => kt (by by_cases q : P; exact q; exact absurd (by rw [iB, if_neg q]) h)) (fun h => kf (fun q => by rw [iB, if_pos q] at h; exact absurd h (by decide)))
theorem r_lcmp_lt (C : Cx p s m args meth c cc nL own rt D k) {a b off : Int} {tgt : Nat} (hc : decode cc pc = .ok (.lcmp, 1)) (hd : decode cc (pc + 1) = .ok (.ifCond .lt off, 3)) (ht : ((pc + 1 : Nat) : Int) + off = (tgt : Int)) (ha : In64 a) (hb : In64 b) (kt : a < b → W p l e R s m args below meth c H locs cells slots Q (F0 m (tgt) ls (rest))) (kf : ¬ a < b → W p l e R s m args below meth c H locs cells slots Q (F0 m (pc + 1 + 3) ls (rest))) : W p l e R s m args below meth c H locs cells slots Q (F0 m (pc) ls (.long (lI b) :: .long (lI a) :: rest)) := by
  refine W.lcmp C.1.1 C.1.2.1 hc ?_
  have e := lg_cmpI ha hb
  refine lv_if_lt C.1.1 C.1.2.1 hd ht (fun h => kt ?_) (fun h => kf ?_) <;> rw [e] at h <;> revert h <;> split <;> (try split) <;> intro h <;> first | omega | (exact absurd h (by decide))
theorem r_lcmp_ge (C : Cx p s m args meth c cc nL own rt D k) {a b off : Int} {tgt : Nat} (hc : decode cc pc = .ok (.lcmp, 1)) (hd : decode cc (pc + 1) = .ok (.ifCond .ge off, 3)) (ht : ((pc + 1 : Nat) : Int) + off = (tgt : Int)) (ha : In64 a) (hb : In64 b) (kt : ¬ a < b → W p l e R s m args below meth c H locs cells slots Q (F0 m (tgt) ls (rest))) (kf : a < b → W p l e R s m args below meth c H locs cells slots Q (F0 m (pc + 1 + 3) ls (rest))) : W p l e R s m args below meth c H locs cells slots Q (F0 m (pc) ls (.long (lI b) :: .long (lI a) :: rest)) := by
  refine W.lcmp C.1.1 C.1.2.1 hc ?_
  have e := lg_cmpI ha hb
  refine lv_if_ge C.1.1 C.1.2.1 hd ht (fun h => kt ?_) (fun h => kf ?_) <;> rw [e] at h <;> revert h <;> split <;> (try split) <;> intro h <;> first | omega | (exact absurd h (by decide))
theorem r_lcmp_gt (C : Cx p s m args meth c cc nL own rt D k) {a b off : Int} {tgt : Nat} (hc : decode cc pc = .ok (.lcmp, 1)) (hd : decode cc (pc + 1) = .ok (.ifCond .gt off, 3)) (ht : ((pc + 1 : Nat) : Int) + off = (tgt : Int)) (ha : In64 a) (hb : In64 b) (kt : b < a → W p l e R s m args below meth c H locs cells slots Q (F0 m (tgt) ls (rest))) (kf : ¬ b < a → W p l e R s m args below meth c H locs cells slots Q (F0 m (pc + 1 + 3) ls (rest))) : W p l e R s m args below meth c H locs cells slots Q (F0 m (pc) ls (.long (lI b) :: .long (lI a) :: rest)) := by
  refine W.lcmp C.1.1 C.1.2.1 hc ?_
  have e := lg_cmpI ha hb
  refine lv_if_gt C.1.1 C.1.2.1 hd ht (fun h => kt ?_) (fun h => kf ?_) <;> rw [e] at h <;> revert h <;> split <;> (try split) <;> intro h <;> first | omega | (exact absurd h (by decide))
theorem r_lcmp_le (C : Cx p s m args meth c cc nL own rt D k) {a b off : Int} {tgt : Nat} (hc : decode cc pc = .ok (.lcmp, 1)) (hd : decode cc (pc + 1) = .ok (.ifCond .le off, 3)) (ht : ((pc + 1 : Nat) : Int) + off = (tgt : Int)) (ha : In64 a) (hb : In64 b) (kt : ¬ b < a → W p l e R s m args below meth c H locs cells slots Q (F0 m (tgt) ls (rest))) (kf : b < a → W p l e R s m args below meth c H locs cells slots Q (F0 m (pc + 1 + 3) ls (rest))) : W p l e R s m args below meth c H locs cells slots Q (F0 m (pc) ls (.long (lI b) :: .long (lI a) :: rest)) := by
  refine W.lcmp C.1.1 C.1.2.1 hc ?_
  have e := lg_cmpI ha hb
  refine lv_if_le C.1.1 C.1.2.1 hd ht (fun h => kt ?_) (fun h => kf ?_) <;> rw [e] at h <;> revert h <;> split <;> (try split) <;> intro h <;> first | omega | (exact absurd h (by decide))
theorem r_lcmp_eq (C : Cx p s m args meth c cc nL own rt D k) {a b off : Int} {tgt : Nat} (hc : decode cc pc = .ok (.lcmp, 1)) (hd : decode cc (pc + 1) = .ok (.ifCond .eq off, 3)) (ht : ((pc + 1 : Nat) : Int) + off = (tgt : Int)) (ha : In64 a) (hb : In64 b) (kt : a = b → W p l e R s m args below meth c H locs cells slots Q (F0 m (tgt) ls (rest))) (kf : ¬ a = b → W p l e R s m args below meth c H locs cells slots Q (F0 m (pc + 1 + 3) ls (rest))) : W p l e R s m args below meth c H locs cells slots Q (F0 m (pc) ls (.long (lI b) :: .long (lI a) :: rest)) := by
  refine W.lcmp C.1.1 C.1.2.1 hc ?_
  have e := lg_cmpI ha hb
  refine lv_if_eq C.1.1 C.1.2.1 hd ht (fun h => kt ?_) (fun h => kf ?_) <;> rw [e] at h <;> revert h <;> split <;> (try split) <;> intro h <;> first | omega | (exact absurd h (by decide))
theorem r_lcmp_ne (C : Cx p s m args meth c cc nL own rt D k) {a b off : Int} {tgt : Nat} (hc : decode cc pc = .ok (.lcmp, 1)) (hd : decode cc (pc + 1) = .ok (.ifCond .ne off, 3)) (ht : ((pc + 1 : Nat) : Int) + off = (tgt : Int)) (ha : In64 a) (hb : In64 b) (kt : ¬ a = b → W p l e R s m args below meth c H locs cells slots Q (F0 m (tgt) ls (rest))) (kf : a = b → W p l e R s m args below meth c H locs cells slots Q (F0 m (pc + 1 + 3) ls (rest))) : W p l e R s m args below meth c H locs cells slots Q (F0 m (pc) ls (.long (lI b) :: .long (lI a) :: rest)) := by
  refine W.lcmp C.1.1 C.1.2.1 hc ?_
  have e := lg_cmpI ha hb
  refine lv_if_ne C.1.1 C.1.2.1 hd ht (fun h => kt ?_) (fun h => kf ?_) <;> rw [e] at h <;> revert h <;> split <;> (try split) <;> intro h <;> first | omega | (exact absurd h (by decide))
theorem r_iald (C : Cx p s m args meth c cc nL own rt D k) (hP : va_P D vwCl w H) (q0 : Nat) {a n : Nat} {f : Int → Int} {z : Int} (ha : w[q0]? = some (a, .inl (k 0, n, .inl (arr f)))) (hd : decode cc pc = .ok (.iaload, 1)) (h0 : 0 ≤ z) (h : z < n) (hn : n < 2147483648) (kk : W p l e R s m args below meth c H locs cells slots Q (F0 m (pc + 1) ls (.int (iI (f z)) :: rest))) : W p l e R s m args below meth c H locs cells slots Q (F0 m (pc) ls (.int (iI z) :: .ref a :: rest)) := va_iald C.1.1 C.1.2.1 C.2.1.1 hP q0 0 ha rfl (iI_ix h0 h hn) hd (by rw [iI_clamp h0 (by omega), arr_at f h0]; exact kk)
theorem r_lald (C : Cx p s m args meth c cc nL own rt D k) (hP : va_P D vwCl w H) (q0 : Nat) {a n : Nat} {f : Int → Int64} {z : Int} (ha : w[q0]? = some (a, .inl (k 1, n, .inr (.inl (arL f))))) (hd : decode cc pc = .ok (.laload, 1)) (h0 : 0 ≤ z) (h : z < n) (hn : n < 2147483648) (kk : W p l e R s m args below meth c H locs cells slots Q (F0 m (pc + 1) ls (.long (f z) :: rest))) : W p l e R s m args below meth c H locs cells slots Q (F0 m (pc) ls (.int (iI z) :: .ref a :: rest)) := va_lald C.1.1 C.1.2.1 C.2.1.1 hP q0 1 ha rfl (iI_ix h0 h hn) hd (by rw [iI_clamp h0 (by omega), arL_at f h0]; exact kk)
theorem r_iast (C : Cx p s m args meth c cc nL own rt D k) (hP : va_P D vwCl w H) (hD : va_D A w) (hS : va_S A H0 H locs) (q0 : Nat) {a n : Nat} {f : Int → Int} {z v : Int} (w1 : va_W) (ha : w[q0]? = some (a, .inl (k 0, n, .inl (arr f)))) (hd : decode cc pc = .ok (.iastore, 1)) (h0 : 0 ≤ z) (h : z < n) (hn : n < 2147483648) (hw : w.set q0 (a, .inl (k 0, n, .inl (arr (up f z v)))) = w1) (kk : ∀ (H1 : Heap) (locs1 : List Loc), va_P D vwCl w1 H1 → va_D A w1 → va_S A H0 H1 locs1 → W p l e R s m args below meth c H1 locs1 cells slots Q (F0 m (pc + 1) ls rest)) : W p l e R s m args below meth c H locs cells slots Q (F0 m (pc) ls (.int (iI v) :: .int (iI z) :: .ref a :: rest)) := by
  subst hw
  refine va_iast C.1.1 C.1.2.1 C.2.1.1 hP hD hS q0 0 ha rfl (iI_ix h0 h hn) hd (fun H1 locs1 h1 h2 h3 => ?_)
  rw [iI_clamp h0 (by omega), arr_up f h0] at h1 h2
  exact kk H1 locs1 h1 h2 h3
theorem r_last (C : Cx p s m args meth c cc nL own rt D k) (hP : va_P D vwCl w H) (hD : va_D A w) (hS : va_S A H0 H locs) (q0 : Nat) {a n : Nat} {f : Int → Int64} {z : Int} {v : Int64} (w1 : va_W) (ha : w[q0]? = some (a, .inl (k 1, n, .inr (.inl (arL f))))) (hd : decode cc pc = .ok (.lastore, 1)) (h0 : 0 ≤ z) (h : z < n) (hn : n < 2147483648) (hw : w.set q0 (a, .inl (k 1, n, .inr (.inl (arL (up f z v))))) = w1) (kk : ∀ (H1 : Heap) (locs1 : List Loc), va_P D vwCl w1 H1 → va_D A w1 → va_S A H0 H1 locs1 → W p l e R s m args below meth c H1 locs1 cells slots Q (F0 m (pc + 1) ls rest)) : W p l e R s m args below meth c H locs cells slots Q (F0 m (pc) ls (.long v :: .int (iI z) :: .ref a :: rest)) := by
  subst hw
  refine va_last C.1.1 C.1.2.1 C.2.1.1 hP hD hS q0 1 ha rfl (iI_ix h0 h hn) hd (fun H1 locs1 h1 h2 h3 => ?_)
  rw [iI_clamp h0 (by omega), arL_up f h0] at h1 h2
  exact kk H1 locs1 h1 h2 h3
theorem r_tableIn (C : Cx p s m args meth c cc nL own rt D k) {z : Int} (j : Int) (hz : z = j) {dflt lo hi off : Int} {offs : Array Int} {len tgt : Nat} (hd : decode cc pc = .ok (.tableswitch dflt lo hi offs, len)) (h1 : ¬ (iI j).toInt < lo) (h2 : ¬ hi < (iI j).toInt) (ho : offs[((iI j).toInt - lo).toNat]? = some off) (ht : (pc : Int) + off = (tgt : Int)) (kk : W p l e R s m args below meth c H locs cells slots Q (F0 m (tgt) ls (rest))) : W p l e R s m args below meth c H locs cells slots Q (F0 m (pc) ls (.int (iI z) :: rest)) := by
  subst hz
  exact lv_tableIn C.1.1 C.1.2.1 hd h1 h2 ho ht kk
theorem r_tableOut (C : Cx p s m args meth c cc nL own rt D k) {z dflt lo hi : Int} {offs : Array Int} {len tgt : Nat} (hd : decode cc pc = .ok (.tableswitch dflt lo hi offs, len)) (hz : In32 z) (h : z < lo ∨ hi < z) (ht : (pc : Int) + dflt = (tgt : Int)) (kk : W p l e R s m args below meth c H locs cells slots Q (F0 m (tgt) ls (rest))) : W p l e R s m args below meth c H locs cells slots Q (F0 m (pc) ls (.int (iI z) :: rest)) := lv_tableOut C.1.1 C.1.2.1 hd (by rw [iI_toInt hz]; exact h) ht kk
theorem r_get (C : Cx p s m args meth c cc nL own rt D k) (hP : va_P D vwCl w H) (q0 : Nat) {a ci N i : Nat} {Cn ref : String} {T : u_T} {fs : List Value} {v : Value} (j : Nat) (hc : vwCl[ci]? = some (Cn, T, N)) (hin : ∀ x ∈ u_ws Cn T N, x ∈ TB) (hj : j < N) (hlk : Cond.fieldLink own i ref (T j).2.1 (T j).2.2.1 ∈ TB) (href : (T j).1 = ref) (he : w[q0]? = some (a, .inr (ci, fs))) (hv : fs[j]? = some v) (hd : decode cc pc = .ok (.getfield i, 3)) (kk : W p l e R s m args below meth c H locs cells slots Q (F0 m (pc + 3) ls (v :: rest))) : W p l e R s m args below meth c H locs cells slots Q (F0 m (pc) ls (.ref a :: rest)) := by
  subst href
  exact va_get C.1.1 C.1.2.1 C.1.2.2.2.2 hin C.1.2.2.2.1 C.2.1.1 hP q0 he hc j hj (C.1.2.2.2.2 _ hlk) (fun _ h => h) hv hd kk
theorem r_put (C : Cx p s m args meth c cc nL own rt D k) (hP : va_P D vwCl w H) (hD : va_D A w) (hS : va_S A H0 H locs) (q0 : Nat) {a ci N i : Nat} {Cn ref : String} {T : u_T} {ty0 : Nat → FieldType} {fs : List Value} {v : Value} {ty : FieldType} (j : Nat) (w1 : va_W) (hc : vwCl[ci]? = some (Cn, T, N)) (hin : ∀ x ∈ u_ws Cn T N, x ∈ TB) (hty : ∀ j, j < N → parseFieldDescriptor (T j).2.2.1 = some (ty0 j)) (hnm : ∀ a, a < N → ∀ b, b < N → a ≠ b → (T a).2.1 ≠ (T b).2.1) (hj : j < N) (hlk : Cond.fieldLink own i ref (T j).2.1 (T j).2.2.1 ∈ TB) (href : (T j).1 = ref) (hfin : (T j).2.2.2 = false) (hpd : parseFieldDescriptor (T j).2.2.1 = some ty) (he : w[q0]? = some (a, .inr (ci, fs))) (hn : narrow ty v = v) (hfit : fits ty v = true) (hl : j < fs.length) (hw : w.set q0 (a, .inr (ci, fs.set j v)) = w1) (hd : decode cc pc = .ok (.putfield i, 3)) (kk : ∀ (H1 : Heap) (locs1 : List Loc), va_P D vwCl w1 H1 → va_D A w1 → va_S A H0 H1 locs1 → W p l e R s m args below meth c H1 locs1 cells slots Q (F0 m (pc + 3) ls rest)) : W p l e R s m args below meth c H locs cells slots Q (F0 m (pc) ls (v :: .ref a :: rest)) := by
  subst href; subst hw
  exact va_put C.1.1 C.1.2.1 C.1.2.2.2.2 hin ty0 hty hnm C.1.2.2.2.1 C.2.1.1 hP hD hS q0 he hc j hj (C.1.2.2.2.2 _ hlk) (fun _ h => h) hfin hpd hn hfit hl hd kk
theorem r_iretR (C : Cx p s m args meth c cc nL own (some .int) D k) {x y : Int32} (h : x = y) (hd : decode cc pc = .ok (.ireturn, 1)) : W p l e R s m args below meth c s.heap [] 0 0 (MQ below (qR (.int y)) args s 0 0 (fun _ => False)) (F0 m pc ls [.int x]) := by
  subst h
  exact W.iret C.1.1 C.1.2.1 C.2.2.1 (fun t ht _ => ⟨rfl, ht⟩) (fun _ h => absurd h List.not_mem_nil) hd C.2.2.2
theorem nar_b (P : Prop) [Decidable P] : narrow .boolean (.int (iB P)) = .int (iB P) := by
  unfold iB
  split <;> decide
theorem r_zretR (C : Cx p s m args meth c cc nL own (some .boolean) D k) {x : Int32} {P : Prop} [Decidable P] (h : x = iB P) (hd : decode cc pc = .ok (.ireturn, 1)) : W p l e R s m args below meth c s.heap [] 0 0 (MQ below (qR (.int (iB P))) args s 0 0 (fun _ => False)) (F0 m pc ls [.int x]) := by
  subst h
  exact W.zret C.1.1 C.1.2.1 C.2.2.1 (nar_b P) (fun t ht _ => ⟨rfl, ht⟩) (fun _ h => absurd h List.not_mem_nil) hd C.2.2.2
theorem r_lretR (C : Cx p s m args meth c cc nL own (some .long) D k) {x y : Int64} (h : x = y) (hd : decode cc pc = .ok (.lreturn, 1)) : W p l e R s m args below meth c s.heap [] 0 0 (MQ below (qR (.long y)) args s 0 0 (fun _ => False)) (F0 m pc ls [.long x]) := by
  subst h
  exact W.lret C.1.1 C.1.2.1 C.2.2.1 (fun t ht _ => ⟨rfl, ht⟩) (fun _ h => absurd h List.not_mem_nil) hd C.2.2.2
theorem r_iretW (C : Cx p s m args meth c cc nL own (some .int) D k) {w0 w' : va_W} {x y : Int32} (hP : va_P D vwCl w H) (hS : va_S (Ad w0) s.heap H locs) (hw : w = w') (h : x = y) (hd : decode cc pc = .ok (.ireturn, 1)) : W p l e R s m args below meth c H locs 0 0 (MQ below (qW D w0 w' (some (.int y))) args s 0 0 (Ad w0)) (F0 m pc ls [.int x]) := by
  subst h; subst hw
  exact W.iret C.1.1 C.1.2.1 C.2.2.1 (fun t ht _ => ⟨rfl, by rw [ht]; exact hP, hS.F ht⟩) hS.2.2 hd C.2.2.2
theorem r_zretW (C : Cx p s m args meth c cc nL own (some .boolean) D k) {w0 w' : va_W} {x : Int32} {P : Prop} [Decidable P] (hP : va_P D vwCl w H) (hS : va_S (Ad w0) s.heap H locs) (hw : w = w') (h : x = iB P) (hd : decode cc pc = .ok (.ireturn, 1)) : W p l e R s m args below meth c H locs 0 0 (MQ below (qW D w0 w' (some (.int (iB P)))) args s 0 0 (Ad w0)) (F0 m pc ls [.int x]) := by
  subst h; subst hw
  exact W.zret C.1.1 C.1.2.1 C.2.2.1 (nar_b P) (fun t ht _ => ⟨rfl, by rw [ht]; exact hP, hS.F ht⟩) hS.2.2 hd C.2.2.2
theorem r_lretW (C : Cx p s m args meth c cc nL own (some .long) D k) {w0 w' : va_W} {x y : Int64} (hP : va_P D vwCl w H) (hS : va_S (Ad w0) s.heap H locs) (hw : w = w') (h : x = y) (hd : decode cc pc = .ok (.lreturn, 1)) : W p l e R s m args below meth c H locs 0 0 (MQ below (qW D w0 w' (some (.long y))) args s 0 0 (Ad w0)) (F0 m pc ls [.long x]) := by
  subst h; subst hw
  exact W.lret C.1.1 C.1.2.1 C.2.2.1 (fun t ht _ => ⟨rfl, by rw [ht]; exact hP, hS.F ht⟩) hS.2.2 hd C.2.2.2
theorem r_vretW (C : Cx p s m args meth c cc nL own none D k) {w0 w' : va_W} (hP : va_P D vwCl w H) (hS : va_S (Ad w0) s.heap H locs) (hw : w = w') (hd : decode cc pc = .ok (.return_, 1)) : W p l e R s m args below meth c H locs 0 0 (MQ below (qW D w0 w' none) args s 0 0 (Ad w0)) (F0 m pc ls []) := by
  subst hw
  exact W.vret C.1.1 C.1.2.1 C.2.2.1 (fun t ht _ => ⟨rfl, by rw [ht]; exact hP, hS.F ht⟩) hS.2.2 hd C.2.2.2
end RW
end
section
/-! calls -/
def CV (own : String) (i : Nat) (Cn : String) (y : MethodName) (cc : ByteArray) (nL : Nat) (rt : Option FieldType) (n : Nat) : Prop :=
  (Cond.methodLink own i y ∈ TB ∧ Cond.instanceMethod y ∈ TB ∧ Cond.selects Cn y y ∈ TB ∧ Cond.initialized Cn ∈ TB ∧ Cond.code y cc nL rt ∈ TB) ∧ y.cls = Cn ∧ y.cls ≠ "java/lang/invoke/MethodHandle" ∧ y.cls ≠ "java/lang/invoke/VarHandle" ∧ (parseMethodDescriptor y.desc).map (fun d => d.parameters.length) = some n
def CS (own : String) (i : Nat) (y : MethodName) (cc : ByteArray) (nL : Nat) (rt : Option FieldType) (n : Nat) : Prop :=
  (Cond.methodLink own i y ∈ TB ∧ Cond.static y ∈ TB ∧ Cond.initialized y.cls ∈ TB ∧ Cond.code y cc nL rt ∈ TB) ∧ y.cls ≠ "java/lang/invoke/MethodHandle" ∧ y.cls ≠ "java/lang/invoke/VarHandle" ∧ (parseMethodDescriptor y.desc).map (fun d => d.parameters.length) = some n
def CN (own : String) (i : Nat) (y : MethodName) (host : String) (cc : ByteArray) (nL : Nat) (rt : Option FieldType) (n : Nat) : Prop :=
  (Cond.methodLinkNest own i y host ∈ NW ∧ Cond.static y ∈ TB ∧ Cond.initialized y.cls ∈ TB ∧ Cond.code y cc nL rt ∈ TB) ∧ y.cls ≠ "java/lang/invoke/MethodHandle" ∧ y.cls ≠ "java/lang/invoke/VarHandle" ∧ (parseMethodDescriptor y.desc).map (fun d => d.parameters.length) = some n
def putW : va_W → List Nat → va_W → va_W
  | W, i :: is, x :: xs => putW (W.set i x) is xs
  | W, _, _ => W
theorem putW_mem : ∀ (is : List Nat) (xs W : va_W), is.length = xs.length → ∀ (j : Nat) (q : Nat × va_E), (putW W is xs)[j]? = some q → (∃ i : Nat, xs[i]? = some q) ∨ (W[j]? = some q ∧ j ∉ is)
  | [], xs, W, h, j, q, hq => by
    cases xs with
    | nil => exact Or.inr ⟨hq, List.not_mem_nil⟩
    | cons => cases h
  | i :: is, [], W, h, j, q, hq => by cases h
  | i :: is, x :: xs, W, h, j, q, hq => by
    rcases putW_mem is xs (W.set i x) (Nat.succ.inj h) j q hq with ⟨n, hn⟩ | ⟨h1, h2⟩
    · exact Or.inl ⟨n + 1, hn⟩
    · by_cases e : i = j
      · subst e
        rw [List.getElem?_set] at h1
        rw [if_pos rfl] at h1
        split at h1
        · cases h1; exact Or.inl ⟨0, rfl⟩
        · cases h1
      · rw [List.getElem?_set_ne e] at h1
        exact Or.inr ⟨h1, fun hm => by
          rcases List.mem_cons.mp hm with rfl | hm
          · exact e rfl
          · exact h2 hm⟩
theorem va_D.same {A : Nat → Prop} {w w1 : va_W} (hD : va_D A w) (ha : w1.map (·.1) = w.map (·.1)) : va_D A w1 := by
  have key : ∀ (i : Nat) (q : Nat × va_E), w1[i]? = some q → ∃ q', w[i]? = some q' ∧ q'.1 = q.1 := by
    intro i q hq
    have h1 : (w1.map (·.1))[i]? = some q.1 := by rw [List.getElem?_map, hq]; rfl
    rw [ha, List.getElem?_map] at h1
    cases h : w[i]? with
    | none => rw [h] at h1; cases h1
    | some q' => rw [h] at h1; exact ⟨q', rfl, Option.some.inj h1⟩
  refine ⟨fun i j a b hi hj hab => ?_, fun i q hq => ?_⟩
  · obtain ⟨a', h1, h2⟩ := key i a hi
    obtain ⟨b', h3, h4⟩ := key j b hj
    exact hD.1 i j a' b' h1 h3 (by rw [h2, h4, hab])
  · obtain ⟨q', h1, h2⟩ := key i q hq
    rw [← h2]; exact hD.2 i q' h1
section CALLS
variable {p : Program} {l : Launch} {e : Env} {R : Room} {s : State} {m : MethodId} {args : Array Value} {below : List Frame} {meth : Method} {c : Code} {H : Heap} {locs : List Loc} {cells slots : Nat} {Q : State → Prop}
variable {cc : ByteArray} {nL : Nat} {own : String} {rt : Option FieldType} {D : va_G} {k : Nat → ClassId} {pc : Nat} {ls : Array Slot} {rest : List Value} {w w' : va_W} {A : Nat → Prop} {H0 : Heap}
variable {y : MethodName} {cb : ByteArray} {nM : Nat} {rc : Option FieldType} {fr lo i n : Nat} {As : List Value} {v : Value} {ov : Option Value} {b ci N : Nat} {Cn host : String} {T : u_T} {fs : List Value}
theorem W.callQR {g : JFrame} {a : Array Value} (hr : CallRun p l e R s m args below meth c H locs cells slots 0 0 g rest (qR v a) (fun _ => False)) (kk : W p l e R s m args below meth c H locs cells slots Q { g with pc := g.pc + 3, stack := v :: rest }) : W p l e R s m args below meth c H locs cells slots Q g := by
  intro U hU X
  obtain ⟨v', st₀, t, T', L, h0, X', hL, e1, ⟨hv, hh⟩, st⟩ := hr U hU X
  cases hv
  obtain ⟨t2, a1, b1⟩ := kk T' (by rw [e1, hh, h0]) (Stand.forget X' (fun q h => (hL q h).elim))
  exact ⟨t2, st t2 a1, b1⟩
theorem W.callQW {g : JFrame} {a : Array Value} {W0 : va_W} (hr : CallRun p l e R s m args below meth c H locs cells slots 0 0 g rest (qW D w w' ov a) (Ad w)) (hP : va_P D vwCl W0 H) (hD : va_D A W0) (hS : va_S A H0 H locs) (isC : List Nat) (W1 : va_W) (hC : isC.map (fun i => W0[i]?) = w.map some) (hlen : isC.length = w'.length) (hW : putW W0 isC w' = W1) (ha : W1.map (·.1) = W0.map (·.1))
    (kk : ∀ (H1 : Heap) (locs1 : List Loc), va_P D vwCl W1 H1 → va_D A W1 → va_S A H0 H1 locs1 → W p l e R s m args below meth c H1 locs1 cells slots Q { g with pc := g.pc + 3, stack := ov.toList ++ rest }) : W p l e R s m args below meth c H locs cells slots Q g := by
  intro U hU X
  obtain ⟨v', st₀, t, T', L, h0, X', hL, e1, ⟨hv, hp, hz, hk⟩, st⟩ := hr U hU X
  cases hv
  rw [h0] at hz hk
  have at' : ∀ (j : Nat) (q : Nat × va_E), w[j]? = some q → ∃ i, isC[j]? = some i ∧ W0[i]? = some q := by
    intro j q hq
    have h1 : (isC.map (fun i => W0[i]?))[j]? = some (some q) := by rw [hC, List.getElem?_map, hq]; rfl
    rw [List.getElem?_map] at h1
    cases hi : isC[j]? with
    | none => rw [hi] at h1; cases h1
    | some i => rw [hi] at h1; exact ⟨i, rfl, Option.some.inj h1⟩
  have hAd : ∀ q, Ad w q → A q := by
    rintro q ⟨j, x, hj⟩
    obtain ⟨i, -, h2⟩ := at' j _ hj
    exact hD.2 i _ h2
  have hP1 : va_P D vwCl W1 t.heap := by
    intro j q hq
    rw [← hW] at hq
    rcases putW_mem isC w' W0 hlen j q hq with ⟨i, hi⟩ | ⟨h1, h2⟩
    · exact hp i q hi
    · refine (hP j q h1).kept (hk q.1 (hP j q h1).lt (fun hq' => ?_))
      obtain ⟨i, x, hx⟩ := hq'
      obtain ⟨i', h3, h4⟩ := at' i _ hx
      have := hD.1 j i' q _ h1 h4 rfl
      subst this
      exact h2 (List.mem_of_getElem? h3)
  obtain ⟨t2, a1, b1⟩ := kk t.heap (locs ++ L) hP1 (hD.same ha)
    ⟨Nat.le_trans hS.1 hz, fun q h1 h2 => by rw [hk q (Nat.lt_of_lt_of_le h1 hS.1) (fun z => h2 (hAd q z))]; exact hS.2.1 q h1 h2, fun q hq => by
      rcases List.mem_append.mp hq with h | h
      · exact hS.2.2 q h
      · exact hAd _ (hL q h)⟩ T' e1 X'
  exact ⟨t2, st t2 a1, b1⟩
theorem c_cw (C : Cx p s m args meth c cc nL own rt D k) (hq : CV own i Cn y cb nM rc n) (hR : fr + 1 ≤ R.frames ∧ 8 + (nM + 11) + lo ≤ R.locals) : CallW R s args own Cn i y cb nM rc (.code y cb nM rc :: TB) (rM fr lo) 0 0 n := by
  obtain ⟨⟨q1, q2, q3, q4, q5⟩, d0, d⟩ := hq
  have hts := C.1.2.2.2.2
  exact ⟨callB_of n hts (tb_good (fun _ h => h) q5) rfl rfl rfl (by rw [d0]; exact hts _ q4) (hts _ q1) d hR, hts _ q2, hts _ q3⟩
theorem c_cs (C : Cx p s m args meth c cc nL own rt D k) (hq : CS own i y cb nM rc n) (hR : fr + 1 ≤ R.frames ∧ 8 + (nM + 11) + lo ≤ R.locals) : CallB R s args own i y cb nM rc (.code y cb nM rc :: TB) (rM fr lo) 0 0 n ∧ (Cond.static y).before args s = true := by
  obtain ⟨⟨q1, q2, q3, q4⟩, d⟩ := hq
  have hts := C.1.2.2.2.2
  exact ⟨callB_of n hts (tb_good (fun _ h => h) q4) rfl rfl rfl (hts _ q3) (hts _ q1) d hR, hts _ q2⟩
theorem c_cn (C : Cx p s m args meth c cc nL own rt D k) (hq : CN own i y host cb nM rc n) (hR : fr + 1 ≤ R.frames ∧ 8 + (nM + 11) + lo ≤ R.locals) : va_CN R s args own i y host cb nM rc (.code y cb nM rc :: TB) (rM fr lo) 0 0 n ∧ (Cond.static y).before args s = true ∧ True := by
  obtain ⟨⟨q1, q2, q3, q4⟩, d⟩ := hq
  have hts := C.1.2.2.2.2
  exact ⟨va_cnB n hts (tb_good (fun _ h => h) q4) rfl rfl rfl (C.2.1.2 _ q1) (hts _ q3) d hR, hts _ q2, trivial⟩
theorem pre_R {As' : List Value} (hE : EV D k s) (hPc : va_P D vwCl w H) : PreS s H (va_Pc As' (fun U => va_P D vwCl w U.heap ∧ EV D k U)) As' :=
  ⟨fun a U g mk q => ⟨q.1, q.2.1, EV.call q.2.2⟩, fun U hU hW => ⟨rfl, by rw [hU]; exact hPc, hE.warm hW⟩⟩
theorem pre_W {As' : List Value} (hE : EV D k s) (hPc : va_P D vwCl w H) (hDc : va_D (fun _ => True) w) : PreS s H (va_Pc As' (fun U => va_P D vwCl w U.heap ∧ EV D k U ∧ va_D (fun _ => True) w)) As' :=
  ⟨fun a U g mk q => ⟨q.1, q.2.1, EV.call q.2.2.1, q.2.2.2⟩, fun U hU hW => ⟨rfl, by rw [hU]; exact hPc, hE.warm hW, hDc⟩⟩
theorem r_cVR (C : Cx p s m args meth c cc nL own rt D k) (hq : CV own i Cn y cb nM rc n) (hM : MR l y cb nM rc fr lo D k (.ref b :: As) w v) (hR : fr + 1 ≤ R.frames ∧ 8 + (nM + 11) + lo ≤ R.locals) (hn : As.length = n) (hPc : va_P D vwCl w H) (hc : vwCl[ci]? = some (Cn, T, N)) (he : w[0]? = some (b, .inr (ci, fs))) (hls : ls.size = nL) (hrm : (rest.map fun v => v.category).sum ≤ 8) (hd : decode cc pc = .ok (.invokevirtual i, 3))
    (kk : W p l e R s m args below meth c H locs cells slots Q (F0 m (pc + 3) ls (v :: rest))) (hcs : cells ≤ R.cells ∧ slots ≤ R.slots) : W p l e R s m args below meth c H locs cells slots Q (F0 m pc ls (As.reverse ++ .ref b :: rest)) :=
  W.callQR (W.runV (As := As) (rest := rest) C.1 hM (c_cw C hq hR) ⟨(pre_R (As' := .ref b :: As) C.2.1 hPc).1, va_recv C.2.1.1 hPc hc he, (pre_R (As' := .ref b :: As) C.2.1 hPc).2⟩ rfl hn hls rfl (lv_room hrm) hd hcs) kk
theorem r_cSR (C : Cx p s m args meth c cc nL own rt D k) (hq : CS own i y cb nM rc n) (hM : MR l y cb nM rc fr lo D k As w v) (hR : fr + 1 ≤ R.frames ∧ 8 + (nM + 11) + lo ≤ R.locals) (hn : As.length = n) (hPc : va_P D vwCl w H) (hls : ls.size = nL) (hrm : (rest.map fun v => v.category).sum ≤ 8) (hd : decode cc pc = .ok (.invokestatic i, 3))
    (kk : W p l e R s m args below meth c H locs cells slots Q (F0 m (pc + 3) ls (v :: rest))) (hcs : cells ≤ R.cells ∧ slots ≤ R.slots) : W p l e R s m args below meth c H locs cells slots Q (F0 m pc ls (As.reverse ++ rest)) :=
  W.callQR (W.runS (As := As) (rest := rest) C.1 hM (c_cs C hq hR) (pre_R C.2.1 hPc) rfl hn hls rfl (lv_room hrm) hd hcs) kk
theorem r_cNR (C : Cx p s m args meth c cc nL own rt D k) (hq : CN own i y host cb nM rc n) (hM : MR l y cb nM rc fr lo D k As w v) (hR : fr + 1 ≤ R.frames ∧ 8 + (nM + 11) + lo ≤ R.locals) (hn : As.length = n) (hPc : va_P D vwCl w H) (hls : ls.size = nL) (hrm : (rest.map fun v => v.category).sum ≤ 8) (hd : decode cc pc = .ok (.invokestatic i, 3))
    (kk : W p l e R s m args below meth c H locs cells slots Q (F0 m (pc + 3) ls (v :: rest))) (hcs : cells ≤ R.cells ∧ slots ≤ R.slots) : W p l e R s m args below meth c H locs cells slots Q (F0 m pc ls (As.reverse ++ rest)) :=
  W.callQR (va_Run.run (va_runSN (As := As) (rest := rest) C.1 hM (c_cn C hq hR) (pre_R C.2.1 hPc) rfl hn hls rfl (lv_room hrm) hd hcs)) kk
theorem r_cVW {W0 : va_W} (C : Cx p s m args meth c cc nL own rt D k) (hq : CV own i Cn y cb nM rc n) (hM : MW l y cb nM rc fr lo D k (.ref b :: As) w w' ov) (hR : fr + 1 ≤ R.frames ∧ 8 + (nM + 11) + lo ≤ R.locals) (hn : As.length = n) (hP : va_P D vwCl W0 H) (hD : va_D A W0) (hS : va_S A H0 H locs) (isC : List Nat) (W1 : va_W) (hnd : va_nd isC = true) (hC : isC.map (fun i => W0[i]?) = w.map some) (hlen : isC.length = w'.length) (hW : putW W0 isC w' = W1) (ha : W1.map (·.1) = W0.map (·.1)) (hc : vwCl[ci]? = some (Cn, T, N)) (he : w[0]? = some (b, .inr (ci, fs))) (hls : ls.size = nL) (hrm : (rest.map fun v => v.category).sum ≤ 8) (hd : decode cc pc = .ok (.invokevirtual i, 3))
    (kk : ∀ (H1 : Heap) (locs1 : List Loc), va_P D vwCl W1 H1 → va_D A W1 → va_S A H0 H1 locs1 → W p l e R s m args below meth c H1 locs1 cells slots Q (F0 m (pc + 3) ls (ov.toList ++ rest))) (hcs : cells ≤ R.cells ∧ slots ≤ R.slots) : W p l e R s m args below meth c H locs cells slots Q (F0 m pc ls (As.reverse ++ .ref b :: rest)) := by
  have hDc : va_D (fun _ => True) w := (hD.sub isC hnd hC).weaken (fun _ _ _ _ => trivial)
  have hPc : va_P D vwCl w H := by
    intro j q hq
    have h1 : (isC.map (fun i => W0[i]?))[j]? = some (some q) := by rw [hC, List.getElem?_map, hq]; rfl
    rw [List.getElem?_map] at h1
    cases hi : isC[j]? with
    | none => rw [hi] at h1; cases h1
    | some i => rw [hi] at h1; exact hP i q (Option.some.inj h1)
  exact W.callQW (W.runV (As := As) (rest := rest) C.1 hM (c_cw C hq hR) ⟨(pre_W (As' := .ref b :: As) C.2.1 hPc hDc).1, va_recv C.2.1.1 hPc hc he, (pre_W (As' := .ref b :: As) C.2.1 hPc hDc).2⟩ rfl hn hls rfl (lv_room hrm) hd hcs) hP hD hS isC W1 hC hlen hW ha kk
theorem r_cVR0  (C : Cx p s m args meth c cc nL own rt D k) (hq : CV own i Cn y cb nM rc 0) (hM : MR l y cb nM rc fr lo D k (.ref b :: []) w v) (hPc : va_P D vwCl w H) (hc : vwCl[ci]? = some (Cn, T, N)) (he : w[0]? = some (b, .inr (ci, fs))) (hls : ls.size = nL) (hd : decode cc pc = .ok (.invokevirtual i, 3))
    (kk : W p l e R s m args below meth c H locs cells slots Q (F0 m (pc + 3) ls (v :: rest))) (hR : fr + 1 ≤ R.frames ∧ 8 + (nM + 11) + lo ≤ R.locals := by exact ⟨Nat.le_of_ble_eq_true rfl, Nat.le_of_ble_eq_true rfl⟩) (hrm : (rest.map fun v => v.category).sum ≤ 8 := by exact Nat.le_of_ble_eq_true rfl) (hcs : cells ≤ R.cells ∧ slots ≤ R.slots := by exact ⟨Nat.zero_le _, Nat.zero_le _⟩) : W p l e R s m args below meth c H locs cells slots Q (F0 m pc ls (.ref b :: rest)) := r_cVR (As := []) C hq hM hR rfl hPc hc he hls hrm hd kk hcs
theorem r_cVW0  {W0 : va_W} (C : Cx p s m args meth c cc nL own rt D k) (hq : CV own i Cn y cb nM rc 0) (hM : MW l y cb nM rc fr lo D k (.ref b :: []) w w' ov) (hP : va_P D vwCl W0 H) (hD : va_D A W0) (hS : va_S A H0 H locs) (isC : List Nat) (W1 : va_W) (hnd : va_nd isC = true) (hC : isC.map (fun i => W0[i]?) = w.map some) (hlen : isC.length = w'.length) (hW : putW W0 isC w' = W1) (ha : W1.map (·.1) = W0.map (·.1)) (hc : vwCl[ci]? = some (Cn, T, N)) (he : w[0]? = some (b, .inr (ci, fs))) (hls : ls.size = nL) (hd : decode cc pc = .ok (.invokevirtual i, 3))
    (kk : ∀ (H1 : Heap) (locs1 : List Loc), va_P D vwCl W1 H1 → va_D A W1 → va_S A H0 H1 locs1 → W p l e R s m args below meth c H1 locs1 cells slots Q (F0 m (pc + 3) ls (ov.toList ++ rest))) (hR : fr + 1 ≤ R.frames ∧ 8 + (nM + 11) + lo ≤ R.locals := by exact ⟨Nat.le_of_ble_eq_true rfl, Nat.le_of_ble_eq_true rfl⟩) (hrm : (rest.map fun v => v.category).sum ≤ 8 := by exact Nat.le_of_ble_eq_true rfl) (hcs : cells ≤ R.cells ∧ slots ≤ R.slots := by exact ⟨Nat.zero_le _, Nat.zero_le _⟩) : W p l e R s m args below meth c H locs cells slots Q (F0 m pc ls (.ref b :: rest)) := r_cVW (As := []) C hq hM hR rfl hP hD hS isC W1 hnd hC hlen hW ha hc he hls hrm hd kk hcs
theorem r_cVR1 {x1 : Value} (C : Cx p s m args meth c cc nL own rt D k) (hq : CV own i Cn y cb nM rc 1) (hM : MR l y cb nM rc fr lo D k (.ref b :: [x1]) w v) (hPc : va_P D vwCl w H) (hc : vwCl[ci]? = some (Cn, T, N)) (he : w[0]? = some (b, .inr (ci, fs))) (hls : ls.size = nL) (hd : decode cc pc = .ok (.invokevirtual i, 3))
    (kk : W p l e R s m args below meth c H locs cells slots Q (F0 m (pc + 3) ls (v :: rest))) (hR : fr + 1 ≤ R.frames ∧ 8 + (nM + 11) + lo ≤ R.locals := by exact ⟨Nat.le_of_ble_eq_true rfl, Nat.le_of_ble_eq_true rfl⟩) (hrm : (rest.map fun v => v.category).sum ≤ 8 := by exact Nat.le_of_ble_eq_true rfl) (hcs : cells ≤ R.cells ∧ slots ≤ R.slots := by exact ⟨Nat.zero_le _, Nat.zero_le _⟩) : W p l e R s m args below meth c H locs cells slots Q (F0 m pc ls (x1 :: .ref b :: rest)) := r_cVR (As := [x1]) C hq hM hR rfl hPc hc he hls hrm hd kk hcs
theorem r_cSR1 {x1 : Value} (C : Cx p s m args meth c cc nL own rt D k) (hq : CS own i y cb nM rc 1) (hM : MR l y cb nM rc fr lo D k [x1] w v) (hPc : va_P D vwCl w H) (hls : ls.size = nL) (hd : decode cc pc = .ok (.invokestatic i, 3))
    (kk : W p l e R s m args below meth c H locs cells slots Q (F0 m (pc + 3) ls (v :: rest))) (hR : fr + 1 ≤ R.frames ∧ 8 + (nM + 11) + lo ≤ R.locals := by exact ⟨Nat.le_of_ble_eq_true rfl, Nat.le_of_ble_eq_true rfl⟩) (hrm : (rest.map fun v => v.category).sum ≤ 8 := by exact Nat.le_of_ble_eq_true rfl) (hcs : cells ≤ R.cells ∧ slots ≤ R.slots := by exact ⟨Nat.zero_le _, Nat.zero_le _⟩) : W p l e R s m args below meth c H locs cells slots Q (F0 m pc ls (x1 :: rest)) := r_cSR (As := [x1]) C hq hM hR rfl hPc hls hrm hd kk hcs
theorem r_cNR1 {x1 : Value} (C : Cx p s m args meth c cc nL own rt D k) (hq : CN own i y host cb nM rc 1) (hM : MR l y cb nM rc fr lo D k [x1] w v) (hPc : va_P D vwCl w H) (hls : ls.size = nL) (hd : decode cc pc = .ok (.invokestatic i, 3))
    (kk : W p l e R s m args below meth c H locs cells slots Q (F0 m (pc + 3) ls (v :: rest))) (hR : fr + 1 ≤ R.frames ∧ 8 + (nM + 11) + lo ≤ R.locals := by exact ⟨Nat.le_of_ble_eq_true rfl, Nat.le_of_ble_eq_true rfl⟩) (hrm : (rest.map fun v => v.category).sum ≤ 8 := by exact Nat.le_of_ble_eq_true rfl) (hcs : cells ≤ R.cells ∧ slots ≤ R.slots := by exact ⟨Nat.zero_le _, Nat.zero_le _⟩) : W p l e R s m args below meth c H locs cells slots Q (F0 m pc ls (x1 :: rest)) := r_cNR (As := [x1]) C hq hM hR rfl hPc hls hrm hd kk hcs
theorem r_cVW1 {x1 : Value} {W0 : va_W} (C : Cx p s m args meth c cc nL own rt D k) (hq : CV own i Cn y cb nM rc 1) (hM : MW l y cb nM rc fr lo D k (.ref b :: [x1]) w w' ov) (hP : va_P D vwCl W0 H) (hD : va_D A W0) (hS : va_S A H0 H locs) (isC : List Nat) (W1 : va_W) (hnd : va_nd isC = true) (hC : isC.map (fun i => W0[i]?) = w.map some) (hlen : isC.length = w'.length) (hW : putW W0 isC w' = W1) (ha : W1.map (·.1) = W0.map (·.1)) (hc : vwCl[ci]? = some (Cn, T, N)) (he : w[0]? = some (b, .inr (ci, fs))) (hls : ls.size = nL) (hd : decode cc pc = .ok (.invokevirtual i, 3))
    (kk : ∀ (H1 : Heap) (locs1 : List Loc), va_P D vwCl W1 H1 → va_D A W1 → va_S A H0 H1 locs1 → W p l e R s m args below meth c H1 locs1 cells slots Q (F0 m (pc + 3) ls (ov.toList ++ rest))) (hR : fr + 1 ≤ R.frames ∧ 8 + (nM + 11) + lo ≤ R.locals := by exact ⟨Nat.le_of_ble_eq_true rfl, Nat.le_of_ble_eq_true rfl⟩) (hrm : (rest.map fun v => v.category).sum ≤ 8 := by exact Nat.le_of_ble_eq_true rfl) (hcs : cells ≤ R.cells ∧ slots ≤ R.slots := by exact ⟨Nat.zero_le _, Nat.zero_le _⟩) : W p l e R s m args below meth c H locs cells slots Q (F0 m pc ls (x1 :: .ref b :: rest)) := r_cVW (As := [x1]) C hq hM hR rfl hP hD hS isC W1 hnd hC hlen hW ha hc he hls hrm hd kk hcs
theorem r_cVR2 {x1 x2 : Value} (C : Cx p s m args meth c cc nL own rt D k) (hq : CV own i Cn y cb nM rc 2) (hM : MR l y cb nM rc fr lo D k (.ref b :: [x1, x2]) w v) (hPc : va_P D vwCl w H) (hc : vwCl[ci]? = some (Cn, T, N)) (he : w[0]? = some (b, .inr (ci, fs))) (hls : ls.size = nL) (hd : decode cc pc = .ok (.invokevirtual i, 3))
    (kk : W p l e R s m args below meth c H locs cells slots Q (F0 m (pc + 3) ls (v :: rest))) (hR : fr + 1 ≤ R.frames ∧ 8 + (nM + 11) + lo ≤ R.locals := by exact ⟨Nat.le_of_ble_eq_true rfl, Nat.le_of_ble_eq_true rfl⟩) (hrm : (rest.map fun v => v.category).sum ≤ 8 := by exact Nat.le_of_ble_eq_true rfl) (hcs : cells ≤ R.cells ∧ slots ≤ R.slots := by exact ⟨Nat.zero_le _, Nat.zero_le _⟩) : W p l e R s m args below meth c H locs cells slots Q (F0 m pc ls (x2 :: x1 :: .ref b :: rest)) := r_cVR (As := [x1, x2]) C hq hM hR rfl hPc hc he hls hrm hd kk hcs
theorem r_cSR2 {x1 x2 : Value} (C : Cx p s m args meth c cc nL own rt D k) (hq : CS own i y cb nM rc 2) (hM : MR l y cb nM rc fr lo D k [x1, x2] w v) (hPc : va_P D vwCl w H) (hls : ls.size = nL) (hd : decode cc pc = .ok (.invokestatic i, 3))
    (kk : W p l e R s m args below meth c H locs cells slots Q (F0 m (pc + 3) ls (v :: rest))) (hR : fr + 1 ≤ R.frames ∧ 8 + (nM + 11) + lo ≤ R.locals := by exact ⟨Nat.le_of_ble_eq_true rfl, Nat.le_of_ble_eq_true rfl⟩) (hrm : (rest.map fun v => v.category).sum ≤ 8 := by exact Nat.le_of_ble_eq_true rfl) (hcs : cells ≤ R.cells ∧ slots ≤ R.slots := by exact ⟨Nat.zero_le _, Nat.zero_le _⟩) : W p l e R s m args below meth c H locs cells slots Q (F0 m pc ls (x2 :: x1 :: rest)) := r_cSR (As := [x1, x2]) C hq hM hR rfl hPc hls hrm hd kk hcs
theorem r_cNR2 {x1 x2 : Value} (C : Cx p s m args meth c cc nL own rt D k) (hq : CN own i y host cb nM rc 2) (hM : MR l y cb nM rc fr lo D k [x1, x2] w v) (hPc : va_P D vwCl w H) (hls : ls.size = nL) (hd : decode cc pc = .ok (.invokestatic i, 3))
    (kk : W p l e R s m args below meth c H locs cells slots Q (F0 m (pc + 3) ls (v :: rest))) (hR : fr + 1 ≤ R.frames ∧ 8 + (nM + 11) + lo ≤ R.locals := by exact ⟨Nat.le_of_ble_eq_true rfl, Nat.le_of_ble_eq_true rfl⟩) (hrm : (rest.map fun v => v.category).sum ≤ 8 := by exact Nat.le_of_ble_eq_true rfl) (hcs : cells ≤ R.cells ∧ slots ≤ R.slots := by exact ⟨Nat.zero_le _, Nat.zero_le _⟩) : W p l e R s m args below meth c H locs cells slots Q (F0 m pc ls (x2 :: x1 :: rest)) := r_cNR (As := [x1, x2]) C hq hM hR rfl hPc hls hrm hd kk hcs
theorem r_cVW2 {x1 x2 : Value} {W0 : va_W} (C : Cx p s m args meth c cc nL own rt D k) (hq : CV own i Cn y cb nM rc 2) (hM : MW l y cb nM rc fr lo D k (.ref b :: [x1, x2]) w w' ov) (hP : va_P D vwCl W0 H) (hD : va_D A W0) (hS : va_S A H0 H locs) (isC : List Nat) (W1 : va_W) (hnd : va_nd isC = true) (hC : isC.map (fun i => W0[i]?) = w.map some) (hlen : isC.length = w'.length) (hW : putW W0 isC w' = W1) (ha : W1.map (·.1) = W0.map (·.1)) (hc : vwCl[ci]? = some (Cn, T, N)) (he : w[0]? = some (b, .inr (ci, fs))) (hls : ls.size = nL) (hd : decode cc pc = .ok (.invokevirtual i, 3))
    (kk : ∀ (H1 : Heap) (locs1 : List Loc), va_P D vwCl W1 H1 → va_D A W1 → va_S A H0 H1 locs1 → W p l e R s m args below meth c H1 locs1 cells slots Q (F0 m (pc + 3) ls (ov.toList ++ rest))) (hR : fr + 1 ≤ R.frames ∧ 8 + (nM + 11) + lo ≤ R.locals := by exact ⟨Nat.le_of_ble_eq_true rfl, Nat.le_of_ble_eq_true rfl⟩) (hrm : (rest.map fun v => v.category).sum ≤ 8 := by exact Nat.le_of_ble_eq_true rfl) (hcs : cells ≤ R.cells ∧ slots ≤ R.slots := by exact ⟨Nat.zero_le _, Nat.zero_le _⟩) : W p l e R s m args below meth c H locs cells slots Q (F0 m pc ls (x2 :: x1 :: .ref b :: rest)) := r_cVW (As := [x1, x2]) C hq hM hR rfl hP hD hS isC W1 hnd hC hlen hW ha hc he hls hrm hd kk hcs
theorem r_cVR3 {x1 x2 x3 : Value} (C : Cx p s m args meth c cc nL own rt D k) (hq : CV own i Cn y cb nM rc 3) (hM : MR l y cb nM rc fr lo D k (.ref b :: [x1, x2, x3]) w v) (hPc : va_P D vwCl w H) (hc : vwCl[ci]? = some (Cn, T, N)) (he : w[0]? = some (b, .inr (ci, fs))) (hls : ls.size = nL) (hd : decode cc pc = .ok (.invokevirtual i, 3))
    (kk : W p l e R s m args below meth c H locs cells slots Q (F0 m (pc + 3) ls (v :: rest))) (hR : fr + 1 ≤ R.frames ∧ 8 + (nM + 11) + lo ≤ R.locals := by exact ⟨Nat.le_of_ble_eq_true rfl, Nat.le_of_ble_eq_true rfl⟩) (hrm : (rest.map fun v => v.category).sum ≤ 8 := by exact Nat.le_of_ble_eq_true rfl) (hcs : cells ≤ R.cells ∧ slots ≤ R.slots := by exact ⟨Nat.zero_le _, Nat.zero_le _⟩) : W p l e R s m args below meth c H locs cells slots Q (F0 m pc ls (x3 :: x2 :: x1 :: .ref b :: rest)) := r_cVR (As := [x1, x2, x3]) C hq hM hR rfl hPc hc he hls hrm hd kk hcs
theorem r_cSR3 {x1 x2 x3 : Value} (C : Cx p s m args meth c cc nL own rt D k) (hq : CS own i y cb nM rc 3) (hM : MR l y cb nM rc fr lo D k [x1, x2, x3] w v) (hPc : va_P D vwCl w H) (hls : ls.size = nL) (hd : decode cc pc = .ok (.invokestatic i, 3))
    (kk : W p l e R s m args below meth c H locs cells slots Q (F0 m (pc + 3) ls (v :: rest))) (hR : fr + 1 ≤ R.frames ∧ 8 + (nM + 11) + lo ≤ R.locals := by exact ⟨Nat.le_of_ble_eq_true rfl, Nat.le_of_ble_eq_true rfl⟩) (hrm : (rest.map fun v => v.category).sum ≤ 8 := by exact Nat.le_of_ble_eq_true rfl) (hcs : cells ≤ R.cells ∧ slots ≤ R.slots := by exact ⟨Nat.zero_le _, Nat.zero_le _⟩) : W p l e R s m args below meth c H locs cells slots Q (F0 m pc ls (x3 :: x2 :: x1 :: rest)) := r_cSR (As := [x1, x2, x3]) C hq hM hR rfl hPc hls hrm hd kk hcs
theorem r_cNR3 {x1 x2 x3 : Value} (C : Cx p s m args meth c cc nL own rt D k) (hq : CN own i y host cb nM rc 3) (hM : MR l y cb nM rc fr lo D k [x1, x2, x3] w v) (hPc : va_P D vwCl w H) (hls : ls.size = nL) (hd : decode cc pc = .ok (.invokestatic i, 3))
    (kk : W p l e R s m args below meth c H locs cells slots Q (F0 m (pc + 3) ls (v :: rest))) (hR : fr + 1 ≤ R.frames ∧ 8 + (nM + 11) + lo ≤ R.locals := by exact ⟨Nat.le_of_ble_eq_true rfl, Nat.le_of_ble_eq_true rfl⟩) (hrm : (rest.map fun v => v.category).sum ≤ 8 := by exact Nat.le_of_ble_eq_true rfl) (hcs : cells ≤ R.cells ∧ slots ≤ R.slots := by exact ⟨Nat.zero_le _, Nat.zero_le _⟩) : W p l e R s m args below meth c H locs cells slots Q (F0 m pc ls (x3 :: x2 :: x1 :: rest)) := r_cNR (As := [x1, x2, x3]) C hq hM hR rfl hPc hls hrm hd kk hcs
theorem r_cVW3 {x1 x2 x3 : Value} {W0 : va_W} (C : Cx p s m args meth c cc nL own rt D k) (hq : CV own i Cn y cb nM rc 3) (hM : MW l y cb nM rc fr lo D k (.ref b :: [x1, x2, x3]) w w' ov) (hP : va_P D vwCl W0 H) (hD : va_D A W0) (hS : va_S A H0 H locs) (isC : List Nat) (W1 : va_W) (hnd : va_nd isC = true) (hC : isC.map (fun i => W0[i]?) = w.map some) (hlen : isC.length = w'.length) (hW : putW W0 isC w' = W1) (ha : W1.map (·.1) = W0.map (·.1)) (hc : vwCl[ci]? = some (Cn, T, N)) (he : w[0]? = some (b, .inr (ci, fs))) (hls : ls.size = nL) (hd : decode cc pc = .ok (.invokevirtual i, 3))
    (kk : ∀ (H1 : Heap) (locs1 : List Loc), va_P D vwCl W1 H1 → va_D A W1 → va_S A H0 H1 locs1 → W p l e R s m args below meth c H1 locs1 cells slots Q (F0 m (pc + 3) ls (ov.toList ++ rest))) (hR : fr + 1 ≤ R.frames ∧ 8 + (nM + 11) + lo ≤ R.locals := by exact ⟨Nat.le_of_ble_eq_true rfl, Nat.le_of_ble_eq_true rfl⟩) (hrm : (rest.map fun v => v.category).sum ≤ 8 := by exact Nat.le_of_ble_eq_true rfl) (hcs : cells ≤ R.cells ∧ slots ≤ R.slots := by exact ⟨Nat.zero_le _, Nat.zero_le _⟩) : W p l e R s m args below meth c H locs cells slots Q (F0 m pc ls (x3 :: x2 :: x1 :: .ref b :: rest)) := r_cVW (As := [x1, x2, x3]) C hq hM hR rfl hP hD hS isC W1 hnd hC hlen hW ha hc he hls hrm hd kk hcs
theorem r_cVR4 {x1 x2 x3 x4 : Value} (C : Cx p s m args meth c cc nL own rt D k) (hq : CV own i Cn y cb nM rc 4) (hM : MR l y cb nM rc fr lo D k (.ref b :: [x1, x2, x3, x4]) w v) (hPc : va_P D vwCl w H) (hc : vwCl[ci]? = some (Cn, T, N)) (he : w[0]? = some (b, .inr (ci, fs))) (hls : ls.size = nL) (hd : decode cc pc = .ok (.invokevirtual i, 3))
    (kk : W p l e R s m args below meth c H locs cells slots Q (F0 m (pc + 3) ls (v :: rest))) (hR : fr + 1 ≤ R.frames ∧ 8 + (nM + 11) + lo ≤ R.locals := by exact ⟨Nat.le_of_ble_eq_true rfl, Nat.le_of_ble_eq_true rfl⟩) (hrm : (rest.map fun v => v.category).sum ≤ 8 := by exact Nat.le_of_ble_eq_true rfl) (hcs : cells ≤ R.cells ∧ slots ≤ R.slots := by exact ⟨Nat.zero_le _, Nat.zero_le _⟩) : W p l e R s m args below meth c H locs cells slots Q (F0 m pc ls (x4 :: x3 :: x2 :: x1 :: .ref b :: rest)) := r_cVR (As := [x1, x2, x3, x4]) C hq hM hR rfl hPc hc he hls hrm hd kk hcs
theorem r_cSR4 {x1 x2 x3 x4 : Value} (C : Cx p s m args meth c cc nL own rt D k) (hq : CS own i y cb nM rc 4) (hM : MR l y cb nM rc fr lo D k [x1, x2, x3, x4] w v) (hPc : va_P D vwCl w H) (hls : ls.size = nL) (hd : decode cc pc = .ok (.invokestatic i, 3))
    (kk : W p l e R s m args below meth c H locs cells slots Q (F0 m (pc + 3) ls (v :: rest))) (hR : fr + 1 ≤ R.frames ∧ 8 + (nM + 11) + lo ≤ R.locals := by exact ⟨Nat.le_of_ble_eq_true rfl, Nat.le_of_ble_eq_true rfl⟩) (hrm : (rest.map fun v => v.category).sum ≤ 8 := by exact Nat.le_of_ble_eq_true rfl) (hcs : cells ≤ R.cells ∧ slots ≤ R.slots := by exact ⟨Nat.zero_le _, Nat.zero_le _⟩) : W p l e R s m args below meth c H locs cells slots Q (F0 m pc ls (x4 :: x3 :: x2 :: x1 :: rest)) := r_cSR (As := [x1, x2, x3, x4]) C hq hM hR rfl hPc hls hrm hd kk hcs
theorem r_cNR4 {x1 x2 x3 x4 : Value} (C : Cx p s m args meth c cc nL own rt D k) (hq : CN own i y host cb nM rc 4) (hM : MR l y cb nM rc fr lo D k [x1, x2, x3, x4] w v) (hPc : va_P D vwCl w H) (hls : ls.size = nL) (hd : decode cc pc = .ok (.invokestatic i, 3))
    (kk : W p l e R s m args below meth c H locs cells slots Q (F0 m (pc + 3) ls (v :: rest))) (hR : fr + 1 ≤ R.frames ∧ 8 + (nM + 11) + lo ≤ R.locals := by exact ⟨Nat.le_of_ble_eq_true rfl, Nat.le_of_ble_eq_true rfl⟩) (hrm : (rest.map fun v => v.category).sum ≤ 8 := by exact Nat.le_of_ble_eq_true rfl) (hcs : cells ≤ R.cells ∧ slots ≤ R.slots := by exact ⟨Nat.zero_le _, Nat.zero_le _⟩) : W p l e R s m args below meth c H locs cells slots Q (F0 m pc ls (x4 :: x3 :: x2 :: x1 :: rest)) := r_cNR (As := [x1, x2, x3, x4]) C hq hM hR rfl hPc hls hrm hd kk hcs
theorem r_cVW4 {x1 x2 x3 x4 : Value} {W0 : va_W} (C : Cx p s m args meth c cc nL own rt D k) (hq : CV own i Cn y cb nM rc 4) (hM : MW l y cb nM rc fr lo D k (.ref b :: [x1, x2, x3, x4]) w w' ov) (hP : va_P D vwCl W0 H) (hD : va_D A W0) (hS : va_S A H0 H locs) (isC : List Nat) (W1 : va_W) (hnd : va_nd isC = true) (hC : isC.map (fun i => W0[i]?) = w.map some) (hlen : isC.length = w'.length) (hW : putW W0 isC w' = W1) (ha : W1.map (·.1) = W0.map (·.1)) (hc : vwCl[ci]? = some (Cn, T, N)) (he : w[0]? = some (b, .inr (ci, fs))) (hls : ls.size = nL) (hd : decode cc pc = .ok (.invokevirtual i, 3))
    (kk : ∀ (H1 : Heap) (locs1 : List Loc), va_P D vwCl W1 H1 → va_D A W1 → va_S A H0 H1 locs1 → W p l e R s m args below meth c H1 locs1 cells slots Q (F0 m (pc + 3) ls (ov.toList ++ rest))) (hR : fr + 1 ≤ R.frames ∧ 8 + (nM + 11) + lo ≤ R.locals := by exact ⟨Nat.le_of_ble_eq_true rfl, Nat.le_of_ble_eq_true rfl⟩) (hrm : (rest.map fun v => v.category).sum ≤ 8 := by exact Nat.le_of_ble_eq_true rfl) (hcs : cells ≤ R.cells ∧ slots ≤ R.slots := by exact ⟨Nat.zero_le _, Nat.zero_le _⟩) : W p l e R s m args below meth c H locs cells slots Q (F0 m pc ls (x4 :: x3 :: x2 :: x1 :: .ref b :: rest)) := r_cVW (As := [x1, x2, x3, x4]) C hq hM hR rfl hP hD hS isC W1 hnd hC hlen hW ha hc he hls hrm hd kk hcs
theorem r_cVR5 {x1 x2 x3 x4 x5 : Value} (C : Cx p s m args meth c cc nL own rt D k) (hq : CV own i Cn y cb nM rc 5) (hM : MR l y cb nM rc fr lo D k (.ref b :: [x1, x2, x3, x4, x5]) w v) (hPc : va_P D vwCl w H) (hc : vwCl[ci]? = some (Cn, T, N)) (he : w[0]? = some (b, .inr (ci, fs))) (hls : ls.size = nL) (hd : decode cc pc = .ok (.invokevirtual i, 3))
    (kk : W p l e R s m args below meth c H locs cells slots Q (F0 m (pc + 3) ls (v :: rest))) (hR : fr + 1 ≤ R.frames ∧ 8 + (nM + 11) + lo ≤ R.locals := by exact ⟨Nat.le_of_ble_eq_true rfl, Nat.le_of_ble_eq_true rfl⟩) (hrm : (rest.map fun v => v.category).sum ≤ 8 := by exact Nat.le_of_ble_eq_true rfl) (hcs : cells ≤ R.cells ∧ slots ≤ R.slots := by exact ⟨Nat.zero_le _, Nat.zero_le _⟩) : W p l e R s m args below meth c H locs cells slots Q (F0 m pc ls (x5 :: x4 :: x3 :: x2 :: x1 :: .ref b :: rest)) := r_cVR (As := [x1, x2, x3, x4, x5]) C hq hM hR rfl hPc hc he hls hrm hd kk hcs
theorem r_cSR5 {x1 x2 x3 x4 x5 : Value} (C : Cx p s m args meth c cc nL own rt D k) (hq : CS own i y cb nM rc 5) (hM : MR l y cb nM rc fr lo D k [x1, x2, x3, x4, x5] w v) (hPc : va_P D vwCl w H) (hls : ls.size = nL) (hd : decode cc pc = .ok (.invokestatic i, 3))
    (kk : W p l e R s m args below meth c H locs cells slots Q (F0 m (pc + 3) ls (v :: rest))) (hR : fr + 1 ≤ R.frames ∧ 8 + (nM + 11) + lo ≤ R.locals := by exact ⟨Nat.le_of_ble_eq_true rfl, Nat.le_of_ble_eq_true rfl⟩) (hrm : (rest.map fun v => v.category).sum ≤ 8 := by exact Nat.le_of_ble_eq_true rfl) (hcs : cells ≤ R.cells ∧ slots ≤ R.slots := by exact ⟨Nat.zero_le _, Nat.zero_le _⟩) : W p l e R s m args below meth c H locs cells slots Q (F0 m pc ls (x5 :: x4 :: x3 :: x2 :: x1 :: rest)) := r_cSR (As := [x1, x2, x3, x4, x5]) C hq hM hR rfl hPc hls hrm hd kk hcs
theorem r_cNR5 {x1 x2 x3 x4 x5 : Value} (C : Cx p s m args meth c cc nL own rt D k) (hq : CN own i y host cb nM rc 5) (hM : MR l y cb nM rc fr lo D k [x1, x2, x3, x4, x5] w v) (hPc : va_P D vwCl w H) (hls : ls.size = nL) (hd : decode cc pc = .ok (.invokestatic i, 3))
    (kk : W p l e R s m args below meth c H locs cells slots Q (F0 m (pc + 3) ls (v :: rest))) (hR : fr + 1 ≤ R.frames ∧ 8 + (nM + 11) + lo ≤ R.locals := by exact ⟨Nat.le_of_ble_eq_true rfl, Nat.le_of_ble_eq_true rfl⟩) (hrm : (rest.map fun v => v.category).sum ≤ 8 := by exact Nat.le_of_ble_eq_true rfl) (hcs : cells ≤ R.cells ∧ slots ≤ R.slots := by exact ⟨Nat.zero_le _, Nat.zero_le _⟩) : W p l e R s m args below meth c H locs cells slots Q (F0 m pc ls (x5 :: x4 :: x3 :: x2 :: x1 :: rest)) := r_cNR (As := [x1, x2, x3, x4, x5]) C hq hM hR rfl hPc hls hrm hd kk hcs
theorem r_cVW5 {x1 x2 x3 x4 x5 : Value} {W0 : va_W} (C : Cx p s m args meth c cc nL own rt D k) (hq : CV own i Cn y cb nM rc 5) (hM : MW l y cb nM rc fr lo D k (.ref b :: [x1, x2, x3, x4, x5]) w w' ov) (hP : va_P D vwCl W0 H) (hD : va_D A W0) (hS : va_S A H0 H locs) (isC : List Nat) (W1 : va_W) (hnd : va_nd isC = true) (hC : isC.map (fun i => W0[i]?) = w.map some) (hlen : isC.length = w'.length) (hW : putW W0 isC w' = W1) (ha : W1.map (·.1) = W0.map (·.1)) (hc : vwCl[ci]? = some (Cn, T, N)) (he : w[0]? = some (b, .inr (ci, fs))) (hls : ls.size = nL) (hd : decode cc pc = .ok (.invokevirtual i, 3))
    (kk : ∀ (H1 : Heap) (locs1 : List Loc), va_P D vwCl W1 H1 → va_D A W1 → va_S A H0 H1 locs1 → W p l e R s m args below meth c H1 locs1 cells slots Q (F0 m (pc + 3) ls (ov.toList ++ rest))) (hR : fr + 1 ≤ R.frames ∧ 8 + (nM + 11) + lo ≤ R.locals := by exact ⟨Nat.le_of_ble_eq_true rfl, Nat.le_of_ble_eq_true rfl⟩) (hrm : (rest.map fun v => v.category).sum ≤ 8 := by exact Nat.le_of_ble_eq_true rfl) (hcs : cells ≤ R.cells ∧ slots ≤ R.slots := by exact ⟨Nat.zero_le _, Nat.zero_le _⟩) : W p l e R s m args below meth c H locs cells slots Q (F0 m pc ls (x5 :: x4 :: x3 :: x2 :: x1 :: .ref b :: rest)) := r_cVW (As := [x1, x2, x3, x4, x5]) C hq hM hR rfl hP hD hS isC W1 hnd hC hlen hW ha hc he hls hrm hd kk hcs
end CALLS
end
section
theorem tb_all {ws : List Cond} (h : ws.all (fun w => decide (w ∈ tables_1) && goodWord w) = true) : ∀ x ∈ ws, x ∈ TB := by
  intro w hw
  have h1 := List.all_eq_true.mp h w hw
  simp only [Bool.and_eq_true, decide_eq_true_eq] at h1
  exact tb_of (List.mem_append_right _ h1.1) h1.2
theorem inTX0 : ∀ x ∈ u_ws RX0 TX0 3, x ∈ TB := tb_all (by decide +kernel)
theorem inTX1 : ∀ x ∈ u_ws RX1 TX1 6, x ∈ TB := tb_all (by decide +kernel)
theorem inTX2 : ∀ x ∈ u_ws RX2 TX2 10, x ∈ TB := tb_all (by decide +kernel)
theorem inTX3 : ∀ x ∈ u_ws RX3 TX3 7, x ∈ TB := tb_all (by decide +kernel)
theorem inTX4 : ∀ x ∈ u_ws RX4 TX4 19, x ∈ TB := tb_all (by decide +kernel)
theorem fl_X3_10 : Cond.fieldLink RX3 10 "TrueMaps" "world" "LTrueMaps$World;" ∈ TB := tb_t 119 (by decide +kernel) rfl
theorem fl_X3_16 : Cond.fieldLink RX3 16 "TrueMaps" "trial" "LTrueMaps$World;" ∈ TB := tb_t 120 (by decide +kernel) rfl
theorem fl_X3_19 : Cond.fieldLink RX3 19 "TrueMaps" "kept" "LTrueMaps$World;" ∈ TB := tb_t 121 (by decide +kernel) rfl
theorem fl_X3_25 : Cond.fieldLink RX3 25 "TrueMaps" "tape" "LTrueMaps$Tape;" ∈ TB := tb_t 122 (by decide +kernel) rfl
theorem fl_X3_31 : Cond.fieldLink RX3 31 "TrueMaps" "sheets" "[LTrueMaps$Sheet;" ∈ TB := tb_t 123 (by decide +kernel) rfl
theorem fl_X3_35 : Cond.fieldLink RX3 35 "TrueMaps" "findings" "[I" ∈ TB := tb_t 124 (by decide +kernel) rfl
theorem fl_X3_57 : Cond.fieldLink RX3 57 "TrueMaps$World" "land" "[I" ∈ TB := tb_t 28 (by decide +kernel) rfl
theorem fl_X3_60 : Cond.fieldLink RX3 60 "TrueMaps$World" "map" "[I" ∈ TB := tb_t 30 (by decide +kernel) rfl
theorem fl_X3_66 : Cond.fieldLink RX3 66 "TrueMaps$World" "wrong" "J" ∈ TB := tb_t 48 (by decide +kernel) rfl
theorem fl_X3_87 : Cond.fieldLink RX3 87 "TrueMaps$World" "income" "I" ∈ TB := tb_t 45 (by decide +kernel) rfl
theorem fl_X3_94 : Cond.fieldLink RX3 94 "TrueMaps$World" "menders" "I" ∈ TB := tb_t 41 (by decide +kernel) rfl
theorem fl_X3_104 : Cond.fieldLink RX3 104 "TrueMaps$World" "kinds" "[I" ∈ TB := tb_t 32 (by decide +kernel) rfl
theorem fl_X3_107 : Cond.fieldLink RX3 107 "TrueMaps$World" "places" "[I" ∈ TB := tb_t 34 (by decide +kernel) rfl
theorem fl_X3_110 : Cond.fieldLink RX3 110 "TrueMaps$World" "purses" "[I" ∈ TB := tb_t 36 (by decide +kernel) rfl
theorem fl_X3_113 : Cond.fieldLink RX3 113 "TrueMaps$World" "paid" "[I" ∈ TB := tb_t 38 (by decide +kernel) rfl
theorem fl_X3_140 : Cond.fieldLink RX3 140 "TrueMaps$World" "year" "I" ∈ TB := tb_t 43 (by decide +kernel) rfl
theorem fl_X3_179 : Cond.fieldLink RX3 179 "TrueMaps$Tape" "length" "I" ∈ TB := tb_t 80 (by decide +kernel) rfl
theorem fl_X3_182 : Cond.fieldLink RX3 182 "TrueMaps$Tape" "bytes" "[I" ∈ TB := tb_t 78 (by decide +kernel) rfl
theorem fl_X3_196 : Cond.fieldLink RX3 196 "TrueMaps$Sheet" "size" "I" ∈ TB := tb_t 110 (by decide +kernel) rfl
theorem fl_X3_208 : Cond.fieldLink RX3 208 "TrueMaps$Sheet" "bits" "I" ∈ TB := tb_t 108 (by decide +kernel) rfl
theorem fl_X3_214 : Cond.fieldLink RX3 214 "TrueMaps$Sheet" "numbers" "[J" ∈ TB := tb_t 106 (by decide +kernel) rfl
theorem fl_X3_230 : Cond.fieldLink RX3 230 "TrueMaps" "keeping" "Z" ∈ TB := tb_t 125 (by decide +kernel) rfl
theorem fl_X0_9 : Cond.fieldLink RX0 9 "TrueMaps$Sheet" "numbers" "[J" ∈ TB := tb_t 105 (by decide +kernel) rfl
theorem fl_X0_15 : Cond.fieldLink RX0 15 "TrueMaps$Sheet" "bits" "I" ∈ TB := tb_t 107 (by decide +kernel) rfl
theorem fl_X0_19 : Cond.fieldLink RX0 19 "TrueMaps$Sheet" "size" "I" ∈ TB := tb_t 109 (by decide +kernel) rfl
theorem fl_X1_9 : Cond.fieldLink RX1 9 "TrueMaps$Tape" "bytes" "[I" ∈ TB := tb_t 77 (by decide +kernel) rfl
theorem fl_X1_15 : Cond.fieldLink RX1 15 "TrueMaps$Tape" "end" "I" ∈ TB := tb_t 83 (by decide +kernel) rfl
theorem fl_X1_26 : Cond.fieldLink RX1 26 "TrueMaps$Tape" "start" "I" ∈ TB := tb_t 82 (by decide +kernel) rfl
theorem fl_X1_29 : Cond.fieldLink RX1 29 "TrueMaps$Tape" "token" "I" ∈ TB := tb_t 81 (by decide +kernel) rfl
theorem fl_X1_56 : Cond.fieldLink RX1 56 "TrueMaps$World" "menders" "I" ∈ TB := tb_t 40 (by decide +kernel) rfl
theorem fl_X1_67 : Cond.fieldLink RX1 67 "TrueMaps$Tape" "number" "I" ∈ TB := tb_t 84 (by decide +kernel) rfl
theorem fl_X1_84 : Cond.fieldLink RX1 84 "TrueMaps$World" "income" "I" ∈ TB := tb_t 46 (by decide +kernel) rfl
theorem fl_X1_126 : Cond.fieldLink RX1 126 "TrueMaps$Tape" "length" "I" ∈ TB := tb_t 79 (by decide +kernel) rfl
theorem fl_X2_9 : Cond.fieldLink RX2 9 "TrueMaps$World" "land" "[I" ∈ TB := tb_t 27 (by decide +kernel) rfl
theorem fl_X2_15 : Cond.fieldLink RX2 15 "TrueMaps$World" "map" "[I" ∈ TB := tb_t 29 (by decide +kernel) rfl
theorem fl_X2_18 : Cond.fieldLink RX2 18 "TrueMaps$World" "kinds" "[I" ∈ TB := tb_t 31 (by decide +kernel) rfl
theorem fl_X2_21 : Cond.fieldLink RX2 21 "TrueMaps$World" "places" "[I" ∈ TB := tb_t 33 (by decide +kernel) rfl
theorem fl_X2_24 : Cond.fieldLink RX2 24 "TrueMaps$World" "purses" "[I" ∈ TB := tb_t 35 (by decide +kernel) rfl
theorem fl_X2_27 : Cond.fieldLink RX2 27 "TrueMaps$World" "paid" "[I" ∈ TB := tb_t 37 (by decide +kernel) rfl
theorem fl_X2_30 : Cond.fieldLink RX2 30 "TrueMaps$World" "income" "I" ∈ TB := tb_t 44 (by decide +kernel) rfl
theorem fl_X2_40 : Cond.fieldLink RX2 40 "TrueMaps$World" "menders" "I" ∈ TB := tb_t 39 (by decide +kernel) rfl
theorem fl_X2_43 : Cond.fieldLink RX2 43 "TrueMaps$World" "year" "I" ∈ TB := tb_t 42 (by decide +kernel) rfl
theorem fl_X2_46 : Cond.fieldLink RX2 46 "TrueMaps$World" "wrong" "J" ∈ TB := tb_t 47 (by decide +kernel) rfl
theorem fl_X4_7 : Cond.fieldLink RX4 7 "TrueMapsModel" "s" "[I" ∈ TB := tb_t 627 (by decide +kernel) rfl
theorem fl_X4_13 : Cond.fieldLink RX4 13 "TrueMapsModel" "keptS" "[I" ∈ TB := tb_t 628 (by decide +kernel) rfl
theorem fl_X4_16 : Cond.fieldLink RX4 16 "TrueMapsModel" "other" "[I" ∈ TB := tb_t 629 (by decide +kernel) rfl
theorem fl_X4_19 : Cond.fieldLink RX4 19 "TrueMapsModel" "aside" "[I" ∈ TB := tb_t 630 (by decide +kernel) rfl
theorem fl_X4_22 : Cond.fieldLink RX4 22 "TrueMapsModel" "statuses" "[I" ∈ TB := tb_t 631 (by decide +kernel) rfl
theorem fl_X4_25 : Cond.fieldLink RX4 25 "TrueMapsModel" "idle" "I" ∈ TB := tb_t 633 (by decide +kernel) rfl
theorem fl_X4_29 : Cond.fieldLink RX4 29 "TrueMapsModel" "steps" "[I" ∈ TB := tb_t 635 (by decide +kernel) rfl
theorem fl_X4_32 : Cond.fieldLink RX4 32 "TrueMapsModel" "tape" "[I" ∈ TB := tb_t 636 (by decide +kernel) rfl
theorem fl_X4_35 : Cond.fieldLink RX4 35 "TrueMapsModel" "bitsOf" "[I" ∈ TB := tb_t 642 (by decide +kernel) rfl
theorem fl_X4_38 : Cond.fieldLink RX4 38 "TrueMapsModel" "sizeOf" "[I" ∈ TB := tb_t 643 (by decide +kernel) rfl
theorem fl_X4_41 : Cond.fieldLink RX4 41 "TrueMapsModel" "numbers" "[J" ∈ TB := tb_t 644 (by decide +kernel) rfl
theorem fl_X4_45 : Cond.fieldLink RX4 45 "TrueMapsModel" "moved" "[J" ∈ TB := tb_t 645 (by decide +kernel) rfl
theorem fl_X4_159 : Cond.fieldLink RX4 159 "TrueMapsModel" "twoLeft" "I" ∈ TB := tb_t 634 (by decide +kernel) rfl
theorem fl_X4_174 : Cond.fieldLink RX4 174 "TrueMapsModel" "taped" "I" ∈ TB := tb_t 637 (by decide +kernel) rfl
theorem fl_X4_185 : Cond.fieldLink RX4 185 "TrueMapsModel" "to" "I" ∈ TB := tb_t 639 (by decide +kernel) rfl
theorem fl_X4_188 : Cond.fieldLink RX4 188 "TrueMapsModel" "from" "I" ∈ TB := tb_t 638 (by decide +kernel) rfl
theorem fl_X4_200 : Cond.fieldLink RX4 200 "TrueMapsModel" "isWrong" "Z" ∈ TB := tb_t 641 (by decide +kernel) rfl
theorem fl_X4_211 : Cond.fieldLink RX4 211 "TrueMapsModel" "value" "I" ∈ TB := tb_t 640 (by decide +kernel) rfl
theorem fl_X4_293 : Cond.fieldLink RX4 293 "TrueMapsModel" "isKept" "Z" ∈ TB := tb_t 632 (by decide +kernel) rfl
theorem ki_X3_48 : Cond.constant RX3 48 (-1000000001) ∈ TB := tb_t 151 (by decide +kernel) rfl
theorem ki_X3_97 : Cond.constant RX3 97 (-1000000002) ∈ TB := tb_t 207 (by decide +kernel) rfl
theorem ki_X3_126 : Cond.constant RX3 126 (-1000000003) ∈ TB := tb_t 267 (by decide +kernel) rfl
theorem ki_X3_127 : Cond.constant RX3 127 (-1000000005) ∈ TB := tb_t 272 (by decide +kernel) rfl
theorem ki_X3_159 : Cond.constant RX3 159 (-1000000004) ∈ TB := tb_t 349 (by decide +kernel) rfl
theorem ki_X3_192 : Cond.constant RX3 192 (-1000000007) ∈ TB := tb_t 550 (by decide +kernel) rfl
theorem ki_X3_203 : Cond.constant RX3 203 (-1000000006) ∈ TB := tb_t 563 (by decide +kernel) rfl
theorem ki_X2_105 : Cond.constant RX2 105 (99999) ∈ TB := tb_t 282 (by decide +kernel) rfl
theorem ki_X4_48 : Cond.constant RX4 48 (-1000000001) ∈ TB := tb_t 701 (by decide +kernel) rfl
theorem ki_X4_96 : Cond.constant RX4 96 (-1000000002) ∈ TB := tb_t 750 (by decide +kernel) rfl
theorem ki_X4_121 : Cond.constant RX4 121 (-1000000003) ∈ TB := tb_t 793 (by decide +kernel) rfl
theorem ki_X4_122 : Cond.constant RX4 122 (-1000000005) ∈ TB := tb_t 798 (by decide +kernel) rfl
theorem ki_X4_123 : Cond.constant RX4 123 (99999) ∈ TB := tb_t 807 (by decide +kernel) rfl
theorem ki_X4_158 : Cond.constant RX4 158 (-1000000004) ∈ TB := tb_t 862 (by decide +kernel) rfl
theorem ki_X4_281 : Cond.constant RX4 281 (-1000000007) ∈ TB := tb_t 1005 (by decide +kernel) rfl
theorem ki_X4_282 : Cond.constant RX4 282 (-1000000006) ∈ TB := tb_t 1014 (by decide +kernel) rfl
theorem kl_X3_154 : Cond.constantLong RX3 154 (281474976710655) ∈ TB := tb_t 177 (by decide +kernel) rfl
theorem kl_X3_177 : Cond.constantLong RX3 177 (-1) ∈ TB := tb_t 404 (by decide +kernel) rfl
theorem kl_X3_224 : Cond.constantLong RX3 224 (6) ∈ TB := tb_t 585 (by decide +kernel) rfl
theorem kl_X3_237 : Cond.constantLong RX3 237 (-141289400074369) ∈ TB := tb_t 175 (by decide +kernel) rfl
theorem kl_X3_239 : Cond.constantLong RX3 239 (-1103823438082) ∈ TB := tb_t 176 (by decide +kernel) rfl
theorem kl_X2_50 : Cond.constantLong RX2 50 (-1) ∈ TB := tb_t 160 (by decide +kernel) rfl
theorem kl_L_134 : Cond.constantLong RL 134 (4294967295) ∈ TB := tb_t 1063 (by decide +kernel) rfl
theorem kl_X4_49 : Cond.constantLong RX4 49 (47) ∈ TB := tb_t 692 (by decide +kernel) rfl
theorem kl_X4_55 : Cond.constantLong RX4 55 (5) ∈ TB := tb_t 696 (by decide +kernel) rfl
theorem kl_X4_78 : Cond.constantLong RX4 78 (4) ∈ TB := tb_t 710 (by decide +kernel) rfl
theorem kl_X4_89 : Cond.constantLong RX4 89 (6) ∈ TB := tb_t 737 (by decide +kernel) rfl
theorem kl_X4_91 : Cond.constantLong RX4 91 (20) ∈ TB := tb_t 742 (by decide +kernel) rfl
theorem kl_X4_115 : Cond.constantLong RX4 115 (9999) ∈ TB := tb_t 781 (by decide +kernel) rfl
theorem kl_X4_138 : Cond.constantLong RX4 138 (60) ∈ TB := tb_t 820 (by decide +kernel) rfl
theorem kl_X4_147 : Cond.constantLong RX4 147 (2) ∈ TB := tb_t 841 (by decide +kernel) rfl
theorem kl_X4_177 : Cond.constantLong RX4 177 (97) ∈ TB := tb_t 938 (by decide +kernel) rfl
theorem kl_X4_179 : Cond.constantLong RX4 179 (122) ∈ TB := tb_t 939 (by decide +kernel) rfl
theorem kl_X4_181 : Cond.constantLong RX4 181 (48) ∈ TB := tb_t 943 (by decide +kernel) rfl
theorem kl_X4_183 : Cond.constantLong RX4 183 (57) ∈ TB := tb_t 944 (by decide +kernel) rfl
theorem kl_X4_207 : Cond.constantLong RX4 207 (36028797018963967) ∈ TB := tb_t 957 (by decide +kernel) rfl
theorem kl_X4_209 : Cond.constantLong RX4 209 (32) ∈ TB := tb_t 958 (by decide +kernel) rfl
theorem kl_X4_222 : Cond.constantLong RX4 222 (441913522) ∈ TB := tb_t 959 (by decide +kernel) rfl
theorem kl_X4_224 : Cond.constantLong RX4 224 (143891634) ∈ TB := tb_t 960 (by decide +kernel) rfl
theorem kl_X4_226 : Cond.constantLong RX4 226 (3544651) ∈ TB := tb_t 961 (by decide +kernel) rfl
theorem kl_X4_228 : Cond.constantLong RX4 228 (86280370) ∈ TB := tb_t 962 (by decide +kernel) rfl
theorem kl_X4_230 : Cond.constantLong RX4 230 (14145714) ∈ TB := tb_t 963 (by decide +kernel) rfl
theorem kl_X4_232 : Cond.constantLong RX4 232 (10154068146) ∈ TB := tb_t 964 (by decide +kernel) rfl
theorem kl_X4_234 : Cond.constantLong RX4 234 (17171758) ∈ TB := tb_t 989 (by decide +kernel) rfl
theorem kl_X4_236 : Cond.constantLong RX4 236 (24170674) ∈ TB := tb_t 990 (by decide +kernel) rfl
theorem kl_X4_238 : Cond.constantLong RX4 238 (769508) ∈ TB := tb_t 991 (by decide +kernel) rfl
theorem kl_X4_240 : Cond.constantLong RX4 240 (23937287397) ∈ TB := tb_t 992 (by decide +kernel) rfl
theorem kl_X4_242 : Cond.constantLong RX4 242 (271756) ∈ TB := tb_t 993 (by decide +kernel) rfl
theorem kl_X4_244 : Cond.constantLong RX4 244 (605220) ∈ TB := tb_t 994 (by decide +kernel) rfl
theorem kl_X4_246 : Cond.constantLong RX4 246 (52) ∈ TB := tb_t 973 (by decide +kernel) rfl
theorem kl_X4_251 : Cond.constantLong RX4 251 (17484389) ∈ TB := tb_t 978 (by decide +kernel) rfl
theorem kl_X4_256 : Cond.constantLong RX4 256 (655) ∈ TB := tb_t 995 (by decide +kernel) rfl
theorem kl_X4_264 : Cond.constantLong RX4 264 (394692) ∈ TB := tb_t 979 (by decide +kernel) rfl
theorem kl_X4_266 : Cond.constantLong RX4 266 (13360) ∈ TB := tb_t 980 (by decide +kernel) rfl
theorem kl_X4_271 : Cond.constantLong RX4 271 (316784037) ∈ TB := tb_t 996 (by decide +kernel) rfl
theorem kl_X4_276 : Cond.constantLong RX4 276 (3) ∈ TB := tb_t 1004 (by decide +kernel) rfl
theorem kl_X4_299 : Cond.constantLong RX4 299 (-1) ∈ TB := tb_t 1062 (by decide +kernel) rfl
theorem kl_J13_314 : Cond.constantLong RJ13 314 (6148914691236517205) ∈ TB := tb_t 181 (by decide +kernel) rfl
theorem kl_J13_316 : Cond.constantLong RJ13 316 (3689348814741910323) ∈ TB := tb_t 182 (by decide +kernel) rfl
theorem kl_J13_318 : Cond.constantLong RJ13 318 (1085102592571150095) ∈ TB := tb_t 183 (by decide +kernel) rfl
theorem co_X3_init : Cond.code yX3_init cX3_init 2 none ∈ TB := tb_t 17 (by decide +kernel) rfl
theorem co_X2_init : Cond.code yX2_init cX2_init 1 none ∈ TB := tb_t 25 (by decide +kernel) rfl
theorem co_X1_init : Cond.code yX1_init cX1_init 1 none ∈ TB := tb_t 75 (by decide +kernel) rfl
theorem co_X0_init : Cond.code yX0_init cX0_init 1 none ∈ TB := tb_t 103 (by decide +kernel) rfl
theorem co_X3_draw : Cond.code yX3_draw cX3_draw 4 (some .int) ∈ TB := tb_t 144 (by decide +kernel) rfl
theorem co_X3_noCell : Cond.code yX3_noCell cX3_noCell 1 (some .boolean) ∈ TB := tb_t 147 (by decide +kernel) rfl
theorem co_X3_outside : Cond.code yX3_outside cX3_outside 3 (some .boolean) ∈ TB := tb_t 150 (by decide +kernel) rfl
theorem co_X3_finding : Cond.code yX3_finding cX3_finding 2 (some .int) ∈ TB := tb_t 155 (by decide +kernel) rfl
theorem co_X2_paint : Cond.code yX2_paint cX2_paint 8 (some .int) ∈ TB := tb_t 159 (by decide +kernel) rfl
theorem co_X3_cell : Cond.code yX3_cell cX3_cell 3 (some .int) ∈ TB := tb_t 164 (by decide +kernel) rfl
theorem co_X2_isWrong : Cond.code yX2_isWrong cX2_isWrong 2 (some .boolean) ∈ TB := tb_t 168 (by decide +kernel) rfl
theorem co_X3_has : Cond.code yX3_has cX3_has 3 (some .boolean) ∈ TB := tb_t 171 (by decide +kernel) rfl
theorem co_X3_beside : Cond.code yX3_beside cX3_beside 4 (some .long) ∈ TB := tb_t 174 (by decide +kernel) rfl
theorem co_J13_bitCount_95d88 : Cond.code yJ13_bitCount_95d88 cJ13_bitCount_95d88 2 (some .int) ∈ TB := tb_t 180 (by decide +kernel) rfl
theorem co_X2_mendersAt : Cond.code yX2_mendersAt cX2_mendersAt 4 (some .int) ∈ TB := tb_t 187 (by decide +kernel) rfl
theorem co_X3_cells : Cond.code yX3_cells cX3_cells 2 (some .long) ∈ TB := tb_t 191 (by decide +kernel) rfl
theorem co_X2_landOf : Cond.code yX2_landOf cX2_landOf 5 (some .long) ∈ TB := tb_t 195 (by decide +kernel) rfl
theorem co_X3_income : Cond.code yX3_income cX3_income 3 (some .int) ∈ TB := tb_t 199 (by decide +kernel) rfl
theorem co_X3_mender : Cond.code yX3_mender cX3_mender 3 (some .int) ∈ TB := tb_t 203 (by decide +kernel) rfl
theorem co_X3_noKind : Cond.code yX3_noKind cX3_noKind 1 (some .boolean) ∈ TB := tb_t 206 (by decide +kernel) rfl
theorem co_X2_addMender : Cond.code yX2_addMender cX2_addMender 5 (some .int) ∈ TB := tb_t 211 (by decide +kernel) rfl
theorem co_X3_of : Cond.code yX3_of cX3_of 3 (some .int) ∈ TB := tb_t 215 (by decide +kernel) rfl
theorem co_X3_noMender : Cond.code yX3_noMender cX3_noMender 2 (some .boolean) ∈ TB := tb_t 219 (by decide +kernel) rfl
theorem co_X2_goalOf : Cond.code yX2_goalOf cX2_goalOf 6 (some .int) ∈ TB := tb_t 223 (by decide +kernel) rfl
theorem co_X2_nearestTo : Cond.code yX2_nearestTo cX2_nearestTo 5 (some .int) ∈ TB := tb_t 227 (by decide +kernel) rfl
theorem co_X3_leastOf : Cond.code yX3_leastOf cX3_leastOf 2 (some .int) ∈ TB := tb_t 231 (by decide +kernel) rfl
theorem co_X2_costOf : Cond.code yX2_costOf cX2_costOf 6 (some .int) ∈ TB := tb_t 235 (by decide +kernel) rfl
theorem co_X2_isEither : Cond.code yX2_isEither cX2_isEither 3 (some .boolean) ∈ TB := tb_t 243 (by decide +kernel) rfl
theorem co_X2_costOfGoal : Cond.code yX2_costOfGoal cX2_costOfGoal 3 (some .int) ∈ TB := tb_t 250 (by decide +kernel) rfl
theorem co_X3_set : Cond.code yX3_set cX3_set 7 (some .int) ∈ TB := tb_t 255 (by decide +kernel) rfl
theorem co_X3_turn : Cond.code yX3_turn cX3_turn 4 (some .int) ∈ TB := tb_t 259 (by decide +kernel) rfl
theorem co_X3_as : Cond.code yX3_as cX3_as 3 (some .int) ∈ TB := tb_t 263 (by decide +kernel) rfl
theorem co_X3_isUnder : Cond.code yX3_isUnder cX3_isUnder 2 (some .boolean) ∈ TB := tb_t 266 (by decide +kernel) rfl
theorem co_X3_cost : Cond.code yX3_cost cX3_cost 3 (some .int) ∈ TB := tb_t 271 (by decide +kernel) rfl
theorem co_X3_mend : Cond.code yX3_mend cX3_mend 4 (some .int) ∈ TB := tb_t 277 (by decide +kernel) rfl
theorem co_X2_payAndMend : Cond.code yX2_payAndMend cX2_payAndMend 4 none ∈ TB := tb_t 281 (by decide +kernel) rfl
theorem co_X2_mendFree : Cond.code yX2_mendFree cX2_mendFree 6 none ∈ TB := tb_t 289 (by decide +kernel) rfl
theorem co_X2_cellAtSide : Cond.code yX2_cellAtSide cX2_cellAtSide 3 (some .int) ∈ TB := tb_t 293 (by decide +kernel) rfl
theorem co_X2_sortSpoiltBy : Cond.code yX2_sortSpoiltBy cX2_sortSpoiltBy 1 (some .int) ∈ TB := tb_t 296 (by decide +kernel) rfl
theorem co_X2_sortSpoiltTo : Cond.code yX2_sortSpoiltTo cX2_sortSpoiltTo 1 (some .int) ∈ TB := tb_t 299 (by decide +kernel) rfl
theorem co_X2_howManyWrong : Cond.code yX2_howManyWrong cX2_howManyWrong 1 (some .int) ∈ TB := tb_t 303 (by decide +kernel) rfl
theorem co_X3_years : Cond.code yX3_years cX3_years 2 (some .int) ∈ TB := tb_t 307 (by decide +kernel) rfl
theorem co_X2_passYears : Cond.code yX2_passYears cX2_passYears 5 (some .int) ∈ TB := tb_t 311 (by decide +kernel) rfl
theorem co_X2_workOneYear : Cond.code yX2_workOneYear cX2_workOneYear 4 none ∈ TB := tb_t 315 (by decide +kernel) rfl
theorem co_X3_now : Cond.code yX3_now cX3_now 2 (some .int) ∈ TB := tb_t 321 (by decide +kernel) rfl
theorem co_X2_together : Cond.code yX2_together cX2_together 4 (some .int) ∈ TB := tb_t 325 (by decide +kernel) rfl
theorem co_X3_on : Cond.code yX3_on cX3_on 4 (some .int) ∈ TB := tb_t 329 (by decide +kernel) rfl
theorem co_X2_become : Cond.code yX2_become cX2_become 2 none ∈ TB := tb_t 333 (by decide +kernel) rfl
theorem co_X3_wrong : Cond.code yX3_wrong cX3_wrong 2 (some .int) ∈ TB := tb_t 340 (by decide +kernel) rfl
theorem co_X3_done : Cond.code yX3_done cX3_done 2 (some .int) ∈ TB := tb_t 344 (by decide +kernel) rfl
theorem co_X3_firstYearWithout : Cond.code yX3_firstYearWithout cX3_firstYearWithout 4 (some .int) ∈ TB := tb_t 348 (by decide +kernel) rfl
theorem co_X3_when : Cond.code yX3_when cX3_when 3 (some .int) ∈ TB := tb_t 353 (by decide +kernel) rfl
theorem co_X3_cheapest : Cond.code yX3_cheapest cX3_cheapest 6 (some .int) ∈ TB := tb_t 357 (by decide +kernel) rfl
theorem co_X3_best : Cond.code yX3_best cX3_best 3 (some .int) ∈ TB := tb_t 361 (by decide +kernel) rfl
theorem co_X2_bestFor : Cond.code yX2_bestFor cX2_bestFor 6 (some .int) ∈ TB := tb_t 365 (by decide +kernel) rfl
theorem co_X2_wrongOnceMended : Cond.code yX2_wrongOnceMended cX2_wrongOnceMended 11 (some .long) ∈ TB := tb_t 369 (by decide +kernel) rfl
theorem co_X3_two : Cond.code yX3_two cX3_two 3 (some .int) ∈ TB := tb_t 373 (by decide +kernel) rfl
theorem co_X3_bestPair : Cond.code yX3_bestPair cX3_bestPair 7 (some .int) ∈ TB := tb_t 377 (by decide +kernel) rfl
theorem co_X3_left : Cond.code yX3_left cX3_left 3 (some .int) ∈ TB := tb_t 383 (by decide +kernel) rfl
theorem co_X3_kind : Cond.code yX3_kind cX3_kind 7 (some .int) ∈ TB := tb_t 387 (by decide +kernel) rfl
theorem co_X3_purse : Cond.code yX3_purse cX3_purse 5 (some .int) ∈ TB := tb_t 391 (by decide +kernel) rfl
theorem co_X3_tryPurse : Cond.code yX3_tryPurse cX3_tryPurse 3 none ∈ TB := tb_t 395 (by decide +kernel) rfl
theorem co_X3_needed : Cond.code yX3_needed cX3_needed 6 (some .int) ∈ TB := tb_t 399 (by decide +kernel) rfl
theorem co_X3_way : Cond.code yX3_way cX3_way 11 (some .int) ∈ TB := tb_t 403 (by decide +kernel) rfl
theorem co_X3_feed : Cond.code yX3_feed cX3_feed 4 (some .int) ∈ TB := tb_t 408 (by decide +kernel) rfl
theorem co_X3_wipe : Cond.code yX3_wipe cX3_wipe 2 (some .int) ∈ TB := tb_t 412 (by decide +kernel) rfl
theorem co_X3_map : Cond.code yX3_map cX3_map 2 (some .int) ∈ TB := tb_t 416 (by decide +kernel) rfl
theorem co_X1_readInto : Cond.code yX1_readInto cX1_readInto 3 (some .int) ∈ TB := tb_t 420 (by decide +kernel) rfl
theorem co_X1_advance : Cond.code yX1_advance cX1_advance 1 none ∈ TB := tb_t 424 (by decide +kernel) rfl
theorem co_X1_isLetter : Cond.code yX1_isLetter cX1_isLetter 1 (some .boolean) ∈ TB := tb_t 427 (by decide +kernel) rfl
theorem co_X1_isDigit : Cond.code yX1_isDigit cX1_isDigit 1 (some .boolean) ∈ TB := tb_t 430 (by decide +kernel) rfl
theorem co_X1_readDigits : Cond.code yX1_readDigits cX1_readDigits 1 none ∈ TB := tb_t 434 (by decide +kernel) rfl
theorem co_X1_readItem : Cond.code yX1_readItem cX1_readItem 3 (some .boolean) ∈ TB := tb_t 439 (by decide +kernel) rfl
theorem co_X1_kindNamed : Cond.code yX1_kindNamed cX1_kindNamed 2 (some .int) ∈ TB := tb_t 443 (by decide +kernel) rfl
theorem co_X1_nameOfKind : Cond.code yX1_nameOfKind cX1_nameOfKind 1 (some (.object "java/lang/String")) ∈ TB := tb_t 446 (by decide +kernel) rfl
theorem co_X1_isWord : Cond.code yX1_isWord cX1_isWord 3 (some .boolean) ∈ TB := tb_t 456 (by decide +kernel) rfl
theorem co_J0_length_8abf5 : Cond.code yJ0_length_8abf5 cJ0_length_8abf5 1 (some .int) ∈ TB := tb_t 460 (by decide +kernel) rfl
theorem co_J0_coder_7d493 : Cond.code yJ0_coder_7d493 cJ0_coder_7d493 1 (some .byte) ∈ TB := tb_t 464 (by decide +kernel) rfl
theorem co_J0_charAt_5068e : Cond.code yJ0_charAt_5068e cJ0_charAt_5068e 2 (some .char) ∈ TB := tb_t 470 (by decide +kernel) rfl
theorem co_J0_isLatin1_aae02 : Cond.code yJ0_isLatin1_aae02 cJ0_isLatin1_aae02 1 (some .boolean) ∈ TB := tb_t 474 (by decide +kernel) rfl
theorem co_J1_charAt_3b067 : Cond.code yJ1_charAt_3b067 cJ1_charAt_3b067 2 (some .char) ∈ TB := tb_t 477 (by decide +kernel) rfl
theorem co_J0_checkIndex_df160 : Cond.code yJ0_checkIndex_df160 cJ0_checkIndex_df160 2 none ∈ TB := tb_t 480 (by decide +kernel) rfl
theorem co_J3_checkIndex_8e157 : Cond.code yJ3_checkIndex_8e157 cJ3_checkIndex_8e157 3 (some .int) ∈ TB := tb_t 485 (by decide +kernel) rfl
theorem co_J2_charAt_3b067 : Cond.code yJ2_charAt_3b067 cJ2_charAt_3b067 2 (some .char) ∈ TB := tb_t 488 (by decide +kernel) rfl
theorem co_J2_checkIndex_2214a : Cond.code yJ2_checkIndex_2214a cJ2_checkIndex_2214a 2 none ∈ TB := tb_t 491 (by decide +kernel) rfl
theorem co_J2_length_9d52b : Cond.code yJ2_length_9d52b cJ2_length_9d52b 1 (some .int) ∈ TB := tb_t 494 (by decide +kernel) rfl
theorem co_J2_getChar_3b067 : Cond.code yJ2_getChar_3b067 cJ2_getChar_3b067 2 (some .char) ∈ TB := tb_t 498 (by decide +kernel) rfl
theorem co_X1_readMender : Cond.code yX1_readMender cX1_readMender 5 (some .boolean) ∈ TB := tb_t 508 (by decide +kernel) rfl
theorem co_X1_isNumber : Cond.code yX1_isNumber cX1_isNumber 3 (some .boolean) ∈ TB := tb_t 513 (by decide +kernel) rfl
theorem co_X1_readCells : Cond.code yX1_readCells cX1_readCells 7 (some .boolean) ∈ TB := tb_t 520 (by decide +kernel) rfl
theorem co_X1_sortNamed : Cond.code yX1_sortNamed cX1_sortNamed 2 (some .int) ∈ TB := tb_t 524 (by decide +kernel) rfl
theorem co_X1_nameOfSort : Cond.code yX1_nameOfSort cX1_nameOfSort 1 (some (.object "java/lang/String")) ∈ TB := tb_t 527 (by decide +kernel) rfl
theorem co_X1_readIncome : Cond.code yX1_readIncome cX1_readIncome 2 (some .boolean) ∈ TB := tb_t 541 (by decide +kernel) rfl
theorem co_X3_sheet : Cond.code yX3_sheet cX3_sheet 4 (some .int) ∈ TB := tb_t 546 (by decide +kernel) rfl
theorem co_X3_noSheet : Cond.code yX3_noSheet cX3_noSheet 1 (some .boolean) ∈ TB := tb_t 549 (by decide +kernel) rfl
theorem co_X0_clear : Cond.code yX0_clear cX0_clear 4 none ∈ TB := tb_t 554 (by decide +kernel) rfl
theorem co_X3_write : Cond.code yX3_write cX3_write 5 (some .long) ∈ TB := tb_t 558 (by decide +kernel) rfl
theorem co_X0_isMissing : Cond.code yX0_isMissing cX0_isMissing 1 (some .boolean) ∈ TB := tb_t 562 (by decide +kernel) rfl
theorem co_X0_put : Cond.code yX0_put cX0_put 6 (some .long) ∈ TB := tb_t 567 (by decide +kernel) rfl
theorem co_X0_cut : Cond.code yX0_cut cX0_cut 3 (some .long) ∈ TB := tb_t 571 (by decide +kernel) rfl
theorem co_X3_copy : Cond.code yX3_copy cX3_copy 8 (some .int) ∈ TB := tb_t 575 (by decide +kernel) rfl
theorem co_X0_hasPart : Cond.code yX0_hasPart cX0_hasPart 3 (some .boolean) ∈ TB := tb_t 579 (by decide +kernel) rfl
theorem co_X3_lays : Cond.code yX3_lays cX3_lays 7 (some .int) ∈ TB := tb_t 584 (by decide +kernel) rfl
theorem co_X3_book : Cond.code yX3_book cX3_book 4 (some .int) ∈ TB := tb_t 589 (by decide +kernel) rfl
theorem co_X3_read : Cond.code yX3_read cX3_read 6 (some .int) ∈ TB := tb_t 593 (by decide +kernel) rfl
theorem co_X3_trialGoesAs : Cond.code yX3_trialGoesAs cX3_trialGoesAs 3 (some .boolean) ∈ TB := tb_t 597 (by decide +kernel) rfl
theorem co_X3_image : Cond.code yX3_image cX3_image 1 (some .int) ∈ TB := tb_t 601 (by decide +kernel) rfl
theorem co_X3_undo : Cond.code yX3_undo cX3_undo 1 (some .int) ∈ TB := tb_t 605 (by decide +kernel) rfl
theorem co_X3_tear : Cond.code yX3_tear cX3_tear 2 (some .int) ∈ TB := tb_t 609 (by decide +kernel) rfl
theorem co_X3_count : Cond.code yX3_count cX3_count 2 (some .int) ∈ TB := tb_t 613 (by decide +kernel) rfl
theorem co_X3_notPlain : Cond.code yX3_notPlain cX3_notPlain 3 (some .int) ∈ TB := tb_t 616 (by decide +kernel) rfl
theorem co_X3_status : Cond.code yX3_status cX3_status 4 (some .int) ∈ TB := tb_t 620 (by decide +kernel) rfl
theorem co_X4_init : Cond.code yX4_init cX4_init 1 none ∈ TB := tb_t 625 (by decide +kernel) rfl
theorem co_X4_draw : Cond.code yX4_draw cX4_draw 4 (some .int) ∈ TB := tb_t 688 (by decide +kernel) rfl
theorem co_X4_isCell : Cond.code yX4_isCell cX4_isCell 1 (some .boolean) ∈ TB := tb_t 691 (by decide +kernel) rfl
theorem co_X4_in : Cond.code yX4_in cX4_in 6 (some .boolean) ∈ TB := tb_t 695 (by decide +kernel) rfl
theorem co_X4_becomes : Cond.code yX4_becomes cX4_becomes 4 (some .int) ∈ TB := tb_t 700 (by decide +kernel) rfl
theorem co_X4_finds : Cond.code yX4_finds cX4_finds 2 (some .int) ∈ TB := tb_t 705 (by decide +kernel) rfl
theorem co_X4_cell : Cond.code yX4_cell cX4_cell 3 (some .int) ∈ TB := tb_t 709 (by decide +kernel) rfl
theorem co_X4_isUntrue : Cond.code yX4_isUntrue cX4_isUntrue 2 (some .boolean) ∈ TB := tb_t 714 (by decide +kernel) rfl
theorem co_X4_wrongBeside : Cond.code yX4_wrongBeside cX4_wrongBeside 5 (some .int) ∈ TB := tb_t 718 (by decide +kernel) rfl
theorem co_X4_beside : Cond.code yX4_beside cX4_beside 4 (some .int) ∈ TB := tb_t 721 (by decide +kernel) rfl
theorem co_X4_thoseAt : Cond.code yX4_thoseAt cX4_thoseAt 4 (some .int) ∈ TB := tb_t 725 (by decide +kernel) rfl
theorem co_X4_its : Cond.code yX4_its cX4_its 3 (some .int) ∈ TB := tb_t 729 (by decide +kernel) rfl
theorem co_X4_spot : Cond.code yX4_spot cX4_spot 2 (some .int) ∈ TB := tb_t 732 (by decide +kernel) rfl
theorem co_X4_cells : Cond.code yX4_cells cX4_cells 5 (some .long) ∈ TB := tb_t 736 (by decide +kernel) rfl
theorem co_X4_income : Cond.code yX4_income cX4_income 2 (some .int) ∈ TB := tb_t 741 (by decide +kernel) rfl
theorem co_X4_mender : Cond.code yX4_mender cX4_mender 3 (some .int) ∈ TB := tb_t 746 (by decide +kernel) rfl
theorem co_X4_isKind : Cond.code yX4_isKind cX4_isKind 1 (some .boolean) ∈ TB := tb_t 749 (by decide +kernel) rfl
theorem co_X4_adds : Cond.code yX4_adds cX4_adds 4 (some .int) ∈ TB := tb_t 754 (by decide +kernel) rfl
theorem co_X4_of : Cond.code yX4_of cX4_of 4 (some .int) ∈ TB := tb_t 758 (by decide +kernel) rfl
theorem co_X4_isMender : Cond.code yX4_isMender cX4_isMender 2 (some .boolean) ∈ TB := tb_t 762 (by decide +kernel) rfl
theorem co_X4_goesFor : Cond.code yX4_goesFor cX4_goesFor 6 (some .int) ∈ TB := tb_t 766 (by decide +kernel) rfl
theorem co_X4_costOf : Cond.code yX4_costOf cX4_costOf 7 (some .int) ∈ TB := tb_t 770 (by decide +kernel) rfl
theorem co_X4_atLeastOne : Cond.code yX4_atLeastOne cX4_atLeastOne 1 (some .int) ∈ TB := tb_t 773 (by decide +kernel) rfl
theorem co_X4_apart : Cond.code yX4_apart cX4_apart 4 (some .int) ∈ TB := tb_t 776 (by decide +kernel) rfl
theorem co_X4_set : Cond.code yX4_set cX4_set 5 (some .int) ∈ TB := tb_t 780 (by decide +kernel) rfl
theorem co_X4_turn : Cond.code yX4_turn cX4_turn 3 (some .int) ∈ TB := tb_t 785 (by decide +kernel) rfl
theorem co_X4_as : Cond.code yX4_as cX4_as 3 (some .int) ∈ TB := tb_t 789 (by decide +kernel) rfl
theorem co_X4_isUnder : Cond.code yX4_isUnder cX4_isUnder 2 (some .boolean) ∈ TB := tb_t 792 (by decide +kernel) rfl
theorem co_X4_cost : Cond.code yX4_cost cX4_cost 3 (some .int) ∈ TB := tb_t 797 (by decide +kernel) rfl
theorem co_X4_mend : Cond.code yX4_mend cX4_mend 3 (some .int) ∈ TB := tb_t 802 (by decide +kernel) rfl
theorem co_X4_pays : Cond.code yX4_pays cX4_pays 5 (some .boolean) ∈ TB := tb_t 806 (by decide +kernel) rfl
theorem co_X4_mends : Cond.code yX4_mends cX4_mends 5 none ∈ TB := tb_t 811 (by decide +kernel) rfl
theorem co_X4_wrongMany : Cond.code yX4_wrongMany cX4_wrongMany 3 (some .int) ∈ TB := tb_t 815 (by decide +kernel) rfl
theorem co_X4_years : Cond.code yX4_years cX4_years 2 (some .int) ∈ TB := tb_t 819 (by decide +kernel) rfl
theorem co_X4_goesOn : Cond.code yX4_goesOn cX4_goesOn 3 none ∈ TB := tb_t 824 (by decide +kernel) rfl
theorem co_X4_year : Cond.code yX4_year cX4_year 5 none ∈ TB := tb_t 828 (by decide +kernel) rfl
theorem co_X4_now : Cond.code yX4_now cX4_now 2 (some .int) ∈ TB := tb_t 832 (by decide +kernel) rfl
theorem co_X4_together : Cond.code yX4_together cX4_together 4 (some .int) ∈ TB := tb_t 836 (by decide +kernel) rfl
theorem co_X4_on : Cond.code yX4_on cX4_on 4 (some .int) ∈ TB := tb_t 840 (by decide +kernel) rfl
theorem co_X4_laysAside : Cond.code yX4_laysAside cX4_laysAside 2 none ∈ TB := tb_t 845 (by decide +kernel) rfl
theorem co_X4_takesBack : Cond.code yX4_takesBack cX4_takesBack 3 (some .int) ∈ TB := tb_t 849 (by decide +kernel) rfl
theorem co_X4_wrong : Cond.code yX4_wrong cX4_wrong 2 (some .int) ∈ TB := tb_t 853 (by decide +kernel) rfl
theorem co_X4_wrongOn : Cond.code yX4_wrongOn cX4_wrongOn 2 (some .int) ∈ TB := tb_t 857 (by decide +kernel) rfl
theorem co_X4_done : Cond.code yX4_done cX4_done 3 (some .int) ∈ TB := tb_t 861 (by decide +kernel) rfl
theorem co_X4_when : Cond.code yX4_when cX4_when 4 (some .int) ∈ TB := tb_t 866 (by decide +kernel) rfl
theorem co_X4_cheapest : Cond.code yX4_cheapest cX4_cheapest 4 (some .int) ∈ TB := tb_t 870 (by decide +kernel) rfl
theorem co_X4_best : Cond.code yX4_best cX4_best 6 (some .int) ∈ TB := tb_t 874 (by decide +kernel) rfl
theorem co_X4_two : Cond.code yX4_two cX4_two 3 (some .int) ∈ TB := tb_t 878 (by decide +kernel) rfl
theorem co_X4_findTwo : Cond.code yX4_findTwo cX4_findTwo 6 (some .int) ∈ TB := tb_t 882 (by decide +kernel) rfl
theorem co_X4_saves : Cond.code yX4_saves cX4_saves 2 none ∈ TB := tb_t 886 (by decide +kernel) rfl
theorem co_X4_putsBack : Cond.code yX4_putsBack cX4_putsBack 2 none ∈ TB := tb_t 890 (by decide +kernel) rfl
theorem co_X4_left : Cond.code yX4_left cX4_left 2 (some .int) ∈ TB := tb_t 894 (by decide +kernel) rfl
theorem co_X4_kind : Cond.code yX4_kind cX4_kind 8 (some .int) ∈ TB := tb_t 898 (by decide +kernel) rfl
theorem co_X4_purse : Cond.code yX4_purse cX4_purse 6 (some .int) ∈ TB := tb_t 902 (by decide +kernel) rfl
theorem co_X4_needed : Cond.code yX4_needed cX4_needed 5 (some .int) ∈ TB := tb_t 906 (by decide +kernel) rfl
theorem co_X4_way : Cond.code yX4_way cX4_way 8 (some .int) ∈ TB := tb_t 910 (by decide +kernel) rfl
theorem co_X4_isOpen : Cond.code yX4_isOpen cX4_isOpen 4 (some .boolean) ∈ TB := tb_t 914 (by decide +kernel) rfl
theorem co_X4_feed : Cond.code yX4_feed cX4_feed 4 (some .int) ∈ TB := tb_t 918 (by decide +kernel) rfl
theorem co_X4_wipe : Cond.code yX4_wipe cX4_wipe 2 (some .int) ∈ TB := tb_t 922 (by decide +kernel) rfl
theorem co_X4_map : Cond.code yX4_map cX4_map 2 (some .int) ∈ TB := tb_t 926 (by decide +kernel) rfl
theorem co_X4_token : Cond.code yX4_token cX4_token 3 none ∈ TB := tb_t 930 (by decide +kernel) rfl
theorem co_X4_byteAt : Cond.code yX4_byteAt cX4_byteAt 2 (some .int) ∈ TB := tb_t 934 (by decide +kernel) rfl
theorem co_X4_isLetter : Cond.code yX4_isLetter cX4_isLetter 1 (some .boolean) ∈ TB := tb_t 937 (by decide +kernel) rfl
theorem co_X4_isDigit : Cond.code yX4_isDigit cX4_isDigit 1 (some .boolean) ∈ TB := tb_t 942 (by decide +kernel) rfl
theorem co_X4_item : Cond.code yX4_item cX4_item 4 none ∈ TB := tb_t 948 (by decide +kernel) rfl
theorem co_X4_kindHere : Cond.code yX4_kindHere cX4_kindHere 3 (some .int) ∈ TB := tb_t 952 (by decide +kernel) rfl
theorem co_X4_word : Cond.code yX4_word cX4_word 4 (some .long) ∈ TB := tb_t 956 (by decide +kernel) rfl
theorem co_X4_menderItem : Cond.code yX4_menderItem cX4_menderItem 3 none ∈ TB := tb_t 968 (by decide +kernel) rfl
theorem co_X4_must : Cond.code yX4_must cX4_must 2 none ∈ TB := tb_t 972 (by decide +kernel) rfl
theorem co_X4_number : Cond.code yX4_number cX4_number 6 none ∈ TB := tb_t 977 (by decide +kernel) rfl
theorem co_X4_cellsItem : Cond.code yX4_cellsItem cX4_cellsItem 6 none ∈ TB := tb_t 984 (by decide +kernel) rfl
theorem co_X4_sortHere : Cond.code yX4_sortHere cX4_sortHere 3 (some .int) ∈ TB := tb_t 988 (by decide +kernel) rfl
theorem co_X4_sheet : Cond.code yX4_sheet cX4_sheet 5 (some .int) ∈ TB := tb_t 1000 (by decide +kernel) rfl
theorem co_X4_isOne : Cond.code yX4_isOne cX4_isOne 1 (some .boolean) ∈ TB := tb_t 1003 (by decide +kernel) rfl
theorem co_X4_write : Cond.code yX4_write cX4_write 8 (some .long) ∈ TB := tb_t 1009 (by decide +kernel) rfl
theorem co_X4_wrongSheet : Cond.code yX4_wrongSheet cX4_wrongSheet 2 (some .int) ∈ TB := tb_t 1013 (by decide +kernel) rfl
theorem co_X4_narrowed : Cond.code yX4_narrowed cX4_narrowed 3 (some .long) ∈ TB := tb_t 1017 (by decide +kernel) rfl
theorem co_X4_copy : Cond.code yX4_copy cX4_copy 7 (some .int) ∈ TB := tb_t 1021 (by decide +kernel) rfl
theorem co_X4_lays : Cond.code yX4_lays cX4_lays 6 (some .int) ∈ TB := tb_t 1025 (by decide +kernel) rfl
theorem co_X4_book : Cond.code yX4_book cX4_book 4 (some .int) ∈ TB := tb_t 1029 (by decide +kernel) rfl
theorem co_X4_read : Cond.code yX4_read cX4_read 6 (some .int) ∈ TB := tb_t 1033 (by decide +kernel) rfl
theorem co_X4_isBook : Cond.code yX4_isBook cX4_isBook 3 (some .boolean) ∈ TB := tb_t 1037 (by decide +kernel) rfl
theorem co_X4_image : Cond.code yX4_image cX4_image 2 (some .int) ∈ TB := tb_t 1041 (by decide +kernel) rfl
theorem co_X4_undo : Cond.code yX4_undo cX4_undo 2 (some .int) ∈ TB := tb_t 1045 (by decide +kernel) rfl
theorem co_X4_tear : Cond.code yX4_tear cX4_tear 2 (some .int) ∈ TB := tb_t 1049 (by decide +kernel) rfl
theorem co_X4_count : Cond.code yX4_count cX4_count 2 (some .int) ∈ TB := tb_t 1053 (by decide +kernel) rfl
theorem co_X4_others : Cond.code yX4_others cX4_others 4 (some .int) ∈ TB := tb_t 1057 (by decide +kernel) rfl
theorem co_X4_status : Cond.code yX4_status cX4_status 4 (some .int) ∈ TB := tb_t 1061 (by decide +kernel) rfl
theorem m_X3_40 : CS RX3 40 yX3_noCell cX3_noCell 1 (some .boolean) 1 := ⟨⟨tb_t 145 (by decide +kernel) rfl, tb_t 146 (by decide +kernel) rfl, tb_t 1 (by decide +kernel) rfl, co_X3_noCell⟩, by decide, by decide, by decide +kernel⟩
theorem m_X3_44 : CS RX3 44 yX3_outside cX3_outside 3 (some .boolean) 3 := ⟨⟨tb_t 148 (by decide +kernel) rfl, tb_t 149 (by decide +kernel) rfl, tb_t 1 (by decide +kernel) rfl, co_X3_outside⟩, by decide, by decide, by decide +kernel⟩
theorem m_X3_49 : CV RX3 49 RX3 yX3_finding cX3_finding 2 (some .int) 1 := ⟨⟨tb_t 152 (by decide +kernel) rfl, tb_t 154 (by decide +kernel) rfl, tb_s 0 (by decide +kernel) rfl, tb_t 1 (by decide +kernel) rfl, co_X3_finding⟩, rfl, by decide, by decide, by decide +kernel⟩
theorem m_X3_53 : CV RX3 53 RX2 yX2_paint cX2_paint 8 (some .int) 3 := ⟨⟨tb_t 156 (by decide +kernel) rfl, tb_t 157 (by decide +kernel) rfl, tb_t 158 (by decide +kernel) rfl, tb_t 2 (by decide +kernel) rfl, co_X2_paint⟩, rfl, by decide, by decide, by decide +kernel⟩
theorem m_X3_63 : CV RX3 63 RX2 yX2_isWrong cX2_isWrong 2 (some .boolean) 1 := ⟨⟨tb_t 165 (by decide +kernel) rfl, tb_t 166 (by decide +kernel) rfl, tb_t 167 (by decide +kernel) rfl, tb_t 2 (by decide +kernel) rfl, co_X2_isWrong⟩, rfl, by decide, by decide, by decide +kernel⟩
theorem m_X3_70 : CS RX3 70 yX3_beside cX3_beside 4 (some .long) 1 := ⟨⟨tb_t 172 (by decide +kernel) rfl, tb_t 173 (by decide +kernel) rfl, tb_t 1 (by decide +kernel) rfl, co_X3_beside⟩, by decide, by decide, by decide +kernel⟩
theorem m_X3_74 : CS RX3 74 yJ13_bitCount_95d88 cJ13_bitCount_95d88 2 (some .int) 1 := ⟨⟨tb_t 178 (by decide +kernel) rfl, tb_t 179 (by decide +kernel) rfl, tb_t 6 (by decide +kernel) rfl, co_J13_bitCount_95d88⟩, by decide, by decide, by decide +kernel⟩
theorem m_X3_80 : CV RX3 80 RX2 yX2_mendersAt cX2_mendersAt 4 (some .int) 1 := ⟨⟨tb_t 184 (by decide +kernel) rfl, tb_t 185 (by decide +kernel) rfl, tb_t 186 (by decide +kernel) rfl, tb_t 2 (by decide +kernel) rfl, co_X2_mendersAt⟩, rfl, by decide, by decide, by decide +kernel⟩
theorem m_X3_83 : CV RX3 83 RX2 yX2_landOf cX2_landOf 5 (some .long) 1 := ⟨⟨tb_t 192 (by decide +kernel) rfl, tb_t 193 (by decide +kernel) rfl, tb_t 194 (by decide +kernel) rfl, tb_t 2 (by decide +kernel) rfl, co_X2_landOf⟩, rfl, by decide, by decide, by decide +kernel⟩
theorem m_X3_91 : CS RX3 91 yX3_noKind cX3_noKind 1 (some .boolean) 1 := ⟨⟨tb_t 204 (by decide +kernel) rfl, tb_t 205 (by decide +kernel) rfl, tb_t 1 (by decide +kernel) rfl, co_X3_noKind⟩, by decide, by decide, by decide +kernel⟩
theorem m_X3_98 : CV RX3 98 RX2 yX2_addMender cX2_addMender 5 (some .int) 3 := ⟨⟨tb_t 208 (by decide +kernel) rfl, tb_t 209 (by decide +kernel) rfl, tb_t 210 (by decide +kernel) rfl, tb_t 2 (by decide +kernel) rfl, co_X2_addMender⟩, rfl, by decide, by decide, by decide +kernel⟩
theorem m_X3_101 : CV RX3 101 RX3 yX3_noMender cX3_noMender 2 (some .boolean) 1 := ⟨⟨tb_t 216 (by decide +kernel) rfl, tb_t 218 (by decide +kernel) rfl, tb_s 1 (by decide +kernel) rfl, tb_t 1 (by decide +kernel) rfl, co_X3_noMender⟩, rfl, by decide, by decide, by decide +kernel⟩
theorem m_X3_116 : CV RX3 116 RX2 yX2_goalOf cX2_goalOf 6 (some .int) 1 := ⟨⟨tb_t 220 (by decide +kernel) rfl, tb_t 221 (by decide +kernel) rfl, tb_t 222 (by decide +kernel) rfl, tb_t 2 (by decide +kernel) rfl, co_X2_goalOf⟩, rfl, by decide, by decide, by decide +kernel⟩
theorem m_X3_119 : CV RX3 119 RX2 yX2_costOfGoal cX2_costOfGoal 3 (some .int) 1 := ⟨⟨tb_t 247 (by decide +kernel) rfl, tb_t 248 (by decide +kernel) rfl, tb_t 249 (by decide +kernel) rfl, tb_t 2 (by decide +kernel) rfl, co_X2_costOfGoal⟩, rfl, by decide, by decide, by decide +kernel⟩
theorem m_X3_122 : CS RX3 122 yX3_isUnder cX3_isUnder 2 (some .boolean) 2 := ⟨⟨tb_t 264 (by decide +kernel) rfl, tb_t 265 (by decide +kernel) rfl, tb_t 1 (by decide +kernel) rfl, co_X3_isUnder⟩, by decide, by decide, by decide +kernel⟩
theorem m_X3_128 : CV RX3 128 RX2 yX2_costOf cX2_costOf 6 (some .int) 2 := ⟨⟨tb_t 273 (by decide +kernel) rfl, tb_t 233 (by decide +kernel) rfl, tb_t 234 (by decide +kernel) rfl, tb_t 2 (by decide +kernel) rfl, co_X2_costOf⟩, rfl, by decide, by decide, by decide +kernel⟩
theorem m_X3_132 : CV RX3 132 RX2 yX2_payAndMend cX2_payAndMend 4 none 3 := ⟨⟨tb_t 278 (by decide +kernel) rfl, tb_t 279 (by decide +kernel) rfl, tb_t 280 (by decide +kernel) rfl, tb_t 2 (by decide +kernel) rfl, co_X2_payAndMend⟩, rfl, by decide, by decide, by decide +kernel⟩
theorem m_X3_136 : CV RX3 136 RX2 yX2_howManyWrong cX2_howManyWrong 1 (some .int) 0 := ⟨⟨tb_t 300 (by decide +kernel) rfl, tb_t 301 (by decide +kernel) rfl, tb_t 302 (by decide +kernel) rfl, tb_t 2 (by decide +kernel) rfl, co_X2_howManyWrong⟩, rfl, by decide, by decide, by decide +kernel⟩
theorem m_X3_143 : CV RX3 143 RX2 yX2_passYears cX2_passYears 5 (some .int) 2 := ⟨⟨tb_t 308 (by decide +kernel) rfl, tb_t 309 (by decide +kernel) rfl, tb_t 310 (by decide +kernel) rfl, tb_t 2 (by decide +kernel) rfl, co_X2_passYears⟩, rfl, by decide, by decide, by decide +kernel⟩
theorem m_X3_146 : CV RX3 146 RX2 yX2_together cX2_together 4 (some .int) 1 := ⟨⟨tb_t 322 (by decide +kernel) rfl, tb_t 323 (by decide +kernel) rfl, tb_t 324 (by decide +kernel) rfl, tb_t 2 (by decide +kernel) rfl, co_X2_together⟩, rfl, by decide, by decide, by decide +kernel⟩
theorem m_X3_150 : CV RX3 150 RX2 yX2_become cX2_become 2 none 1 := ⟨⟨tb_t 330 (by decide +kernel) rfl, tb_t 331 (by decide +kernel) rfl, tb_t 332 (by decide +kernel) rfl, tb_t 2 (by decide +kernel) rfl, co_X2_become⟩, rfl, by decide, by decide, by decide +kernel⟩
theorem m_X3_156 : CV RX3 156 RX3 yX3_firstYearWithout cX3_firstYearWithout 4 (some .int) 1 := ⟨⟨tb_t 345 (by decide +kernel) rfl, tb_t 347 (by decide +kernel) rfl, tb_s 2 (by decide +kernel) rfl, tb_t 1 (by decide +kernel) rfl, co_X3_firstYearWithout⟩, rfl, by decide, by decide, by decide +kernel⟩
theorem m_X3_160 : CV RX3 160 RX2 yX2_bestFor cX2_bestFor 6 (some .int) 1 := ⟨⟨tb_t 362 (by decide +kernel) rfl, tb_t 363 (by decide +kernel) rfl, tb_t 364 (by decide +kernel) rfl, tb_t 2 (by decide +kernel) rfl, co_X2_bestFor⟩, rfl, by decide, by decide, by decide +kernel⟩
theorem m_X3_163 : CV RX3 163 RX3 yX3_bestPair cX3_bestPair 7 (some .int) 1 := ⟨⟨tb_t 374 (by decide +kernel) rfl, tb_t 376 (by decide +kernel) rfl, tb_s 3 (by decide +kernel) rfl, tb_t 1 (by decide +kernel) rfl, co_X3_bestPair⟩, rfl, by decide, by decide, by decide +kernel⟩
theorem m_X3_166 : CV RX3 166 RX2 yX2_mendFree cX2_mendFree 6 none 2 := ⟨⟨tb_t 378 (by decide +kernel) rfl, tb_t 287 (by decide +kernel) rfl, tb_t 288 (by decide +kernel) rfl, tb_t 2 (by decide +kernel) rfl, co_X2_mendFree⟩, rfl, by decide, by decide, by decide +kernel⟩
theorem m_X3_170 : CV RX3 170 RX2 yX2_wrongOnceMended cX2_wrongOnceMended 11 (some .long) 2 := ⟨⟨tb_t 379 (by decide +kernel) rfl, tb_t 367 (by decide +kernel) rfl, tb_t 368 (by decide +kernel) rfl, tb_t 2 (by decide +kernel) rfl, co_X2_wrongOnceMended⟩, rfl, by decide, by decide, by decide +kernel⟩
theorem m_X3_174 : CV RX3 174 RX3 yX3_tryPurse cX3_tryPurse 3 none 2 := ⟨⟨tb_t 392 (by decide +kernel) rfl, tb_t 394 (by decide +kernel) rfl, tb_s 4 (by decide +kernel) rfl, tb_t 1 (by decide +kernel) rfl, co_X3_tryPurse⟩, rfl, by decide, by decide, by decide +kernel⟩
theorem m_X3_185 : CV RX3 185 RX1 yX1_readInto cX1_readInto 3 (some .int) 1 := ⟨⟨tb_t 417 (by decide +kernel) rfl, tb_t 418 (by decide +kernel) rfl, tb_t 419 (by decide +kernel) rfl, tb_t 3 (by decide +kernel) rfl, co_X1_readInto⟩, rfl, by decide, by decide, by decide +kernel⟩
theorem m_X3_189 : CS RX3 189 yX3_noSheet cX3_noSheet 1 (some .boolean) 1 := ⟨⟨tb_t 547 (by decide +kernel) rfl, tb_t 548 (by decide +kernel) rfl, tb_t 1 (by decide +kernel) rfl, co_X3_noSheet⟩, by decide, by decide, by decide +kernel⟩
theorem m_X3_193 : CV RX3 193 RX0 yX0_clear cX0_clear 4 none 2 := ⟨⟨tb_t 551 (by decide +kernel) rfl, tb_t 552 (by decide +kernel) rfl, tb_t 553 (by decide +kernel) rfl, tb_t 4 (by decide +kernel) rfl, co_X0_clear⟩, rfl, by decide, by decide, by decide +kernel⟩
theorem m_X3_199 : CV RX3 199 RX0 yX0_isMissing cX0_isMissing 1 (some .boolean) 0 := ⟨⟨tb_t 559 (by decide +kernel) rfl, tb_t 560 (by decide +kernel) rfl, tb_t 561 (by decide +kernel) rfl, tb_t 4 (by decide +kernel) rfl, co_X0_isMissing⟩, rfl, by decide, by decide, by decide +kernel⟩
theorem m_X3_204 : CV RX3 204 RX0 yX0_put cX0_put 6 (some .long) 2 := ⟨⟨tb_t 564 (by decide +kernel) rfl, tb_t 565 (by decide +kernel) rfl, tb_t 566 (by decide +kernel) rfl, tb_t 4 (by decide +kernel) rfl, co_X0_put⟩, rfl, by decide, by decide, by decide +kernel⟩
theorem m_X3_211 : CV RX3 211 RX0 yX0_hasPart cX0_hasPart 3 (some .boolean) 2 := ⟨⟨tb_t 576 (by decide +kernel) rfl, tb_t 577 (by decide +kernel) rfl, tb_t 578 (by decide +kernel) rfl, tb_t 4 (by decide +kernel) rfl, co_X0_hasPart⟩, rfl, by decide, by decide, by decide +kernel⟩
theorem m_X3_226 : CV RX3 226 RX3 yX3_trialGoesAs cX3_trialGoesAs 3 (some .boolean) 1 := ⟨⟨tb_t 594 (by decide +kernel) rfl, tb_t 596 (by decide +kernel) rfl, tb_s 5 (by decide +kernel) rfl, tb_t 1 (by decide +kernel) rfl, co_X3_trialGoesAs⟩, rfl, by decide, by decide, by decide +kernel⟩
theorem m_X3_234 : CS RX3 234 yX3_notPlain cX3_notPlain 3 (some .int) 1 := ⟨⟨tb_t 614 (by decide +kernel) rfl, tb_t 615 (by decide +kernel) rfl, tb_t 1 (by decide +kernel) rfl, co_X3_notPlain⟩, by decide, by decide, by decide +kernel⟩
theorem m_X0_22 : CV RX0 22 RX0 yX0_cut cX0_cut 3 (some .long) 1 := ⟨⟨tb_t 568 (by decide +kernel) rfl, tb_t 569 (by decide +kernel) rfl, tb_t 570 (by decide +kernel) rfl, tb_t 4 (by decide +kernel) rfl, co_X0_cut⟩, rfl, by decide, by decide, by decide +kernel⟩
theorem m_X1_19 : CV RX1 19 RX1 yX1_advance cX1_advance 1 none 0 := ⟨⟨tb_t 421 (by decide +kernel) rfl, tb_t 422 (by decide +kernel) rfl, tb_t 423 (by decide +kernel) rfl, tb_t 3 (by decide +kernel) rfl, co_X1_advance⟩, rfl, by decide, by decide, by decide +kernel⟩
theorem m_X1_22 : CV RX1 22 RX1 yX1_readItem cX1_readItem 3 (some .boolean) 1 := ⟨⟨tb_t 436 (by decide +kernel) rfl, tb_t 437 (by decide +kernel) rfl, tb_t 438 (by decide +kernel) rfl, tb_t 3 (by decide +kernel) rfl, co_X1_readItem⟩, rfl, by decide, by decide, by decide +kernel⟩
theorem m_X1_32 : CV RX1 32 RX1 yX1_kindNamed cX1_kindNamed 2 (some .int) 0 := ⟨⟨tb_t 440 (by decide +kernel) rfl, tb_t 441 (by decide +kernel) rfl, tb_t 442 (by decide +kernel) rfl, tb_t 3 (by decide +kernel) rfl, co_X1_kindNamed⟩, rfl, by decide, by decide, by decide +kernel⟩
theorem m_X1_36 : CV RX1 36 RX1 yX1_readMender cX1_readMender 5 (some .boolean) 2 := ⟨⟨tb_t 505 (by decide +kernel) rfl, tb_t 506 (by decide +kernel) rfl, tb_t 507 (by decide +kernel) rfl, tb_t 3 (by decide +kernel) rfl, co_X1_readMender⟩, rfl, by decide, by decide, by decide +kernel⟩
theorem m_X1_42 : CV RX1 42 RX1 yX1_isWord cX1_isWord 3 (some .boolean) 1 := ⟨⟨tb_t 453 (by decide +kernel) rfl, tb_t 454 (by decide +kernel) rfl, tb_t 455 (by decide +kernel) rfl, tb_t 3 (by decide +kernel) rfl, co_X1_isWord⟩, rfl, by decide, by decide, by decide +kernel⟩
theorem m_X1_46 : CV RX1 46 RX1 yX1_readCells cX1_readCells 7 (some .boolean) 2 := ⟨⟨tb_t 517 (by decide +kernel) rfl, tb_t 518 (by decide +kernel) rfl, tb_t 519 (by decide +kernel) rfl, tb_t 3 (by decide +kernel) rfl, co_X1_readCells⟩, rfl, by decide, by decide, by decide +kernel⟩
theorem m_X1_53 : CV RX1 53 RX1 yX1_readIncome cX1_readIncome 2 (some .boolean) 1 := ⟨⟨tb_t 538 (by decide +kernel) rfl, tb_t 539 (by decide +kernel) rfl, tb_t 540 (by decide +kernel) rfl, tb_t 3 (by decide +kernel) rfl, co_X1_readIncome⟩, rfl, by decide, by decide, by decide +kernel⟩
theorem m_X1_63 : CV RX1 63 RX1 yX1_isNumber cX1_isNumber 3 (some .boolean) 2 := ⟨⟨tb_t 510 (by decide +kernel) rfl, tb_t 511 (by decide +kernel) rfl, tb_t 512 (by decide +kernel) rfl, tb_t 3 (by decide +kernel) rfl, co_X1_isNumber⟩, rfl, by decide, by decide, by decide +kernel⟩
theorem m_X1_72 : CV RX1 72 RX2 yX2_addMender cX2_addMender 5 (some .int) 3 := ⟨⟨tb_t 515 (by decide +kernel) rfl, tb_t 209 (by decide +kernel) rfl, tb_t 210 (by decide +kernel) rfl, tb_t 2 (by decide +kernel) rfl, co_X2_addMender⟩, rfl, by decide, by decide, by decide +kernel⟩
theorem m_X1_76 : CV RX1 76 RX1 yX1_sortNamed cX1_sortNamed 2 (some .int) 0 := ⟨⟨tb_t 521 (by decide +kernel) rfl, tb_t 522 (by decide +kernel) rfl, tb_t 523 (by decide +kernel) rfl, tb_t 3 (by decide +kernel) rfl, co_X1_sortNamed⟩, rfl, by decide, by decide, by decide +kernel⟩
theorem m_X1_81 : CV RX1 81 RX2 yX2_paint cX2_paint 8 (some .int) 3 := ⟨⟨tb_t 535 (by decide +kernel) rfl, tb_t 157 (by decide +kernel) rfl, tb_t 158 (by decide +kernel) rfl, tb_t 2 (by decide +kernel) rfl, co_X2_paint⟩, rfl, by decide, by decide, by decide +kernel⟩
theorem m_X1_86 : CS RX1 86 yX1_nameOfKind cX1_nameOfKind 1 (some (.object "java/lang/String")) 1 := ⟨⟨tb_t 444 (by decide +kernel) rfl, tb_t 445 (by decide +kernel) rfl, tb_t 3 (by decide +kernel) rfl, co_X1_nameOfKind⟩, by decide, by decide, by decide +kernel⟩
theorem m_X1_90 : CS RX1 90 yX1_nameOfSort cX1_nameOfSort 1 (some (.object "java/lang/String")) 1 := ⟨⟨tb_t 525 (by decide +kernel) rfl, tb_t 526 (by decide +kernel) rfl, tb_t 3 (by decide +kernel) rfl, co_X1_nameOfSort⟩, by decide, by decide, by decide +kernel⟩
theorem m_X1_117 : CV RX1 117 RJ0 yJ0_length_8abf5 cJ0_length_8abf5 1 (some .int) 0 := ⟨⟨tb_t 457 (by decide +kernel) rfl, tb_t 458 (by decide +kernel) rfl, tb_t 459 (by decide +kernel) rfl, tb_t 9 (by decide +kernel) rfl, co_J0_length_8abf5⟩, rfl, by decide, by decide, by decide +kernel⟩
theorem m_X1_122 : CV RX1 122 RJ0 yJ0_charAt_5068e cJ0_charAt_5068e 2 (some .char) 1 := ⟨⟨tb_t 467 (by decide +kernel) rfl, tb_t 468 (by decide +kernel) rfl, tb_t 469 (by decide +kernel) rfl, tb_t 9 (by decide +kernel) rfl, co_J0_charAt_5068e⟩, rfl, by decide, by decide, by decide +kernel⟩
theorem m_X1_128 : CS RX1 128 yX1_isLetter cX1_isLetter 1 (some .boolean) 1 := ⟨⟨tb_t 425 (by decide +kernel) rfl, tb_t 426 (by decide +kernel) rfl, tb_t 3 (by decide +kernel) rfl, co_X1_isLetter⟩, by decide, by decide, by decide +kernel⟩
theorem m_X1_132 : CS RX1 132 yX1_isDigit cX1_isDigit 1 (some .boolean) 1 := ⟨⟨tb_t 428 (by decide +kernel) rfl, tb_t 429 (by decide +kernel) rfl, tb_t 3 (by decide +kernel) rfl, co_X1_isDigit⟩, by decide, by decide, by decide +kernel⟩
theorem m_X1_135 : CV RX1 135 RX1 yX1_readDigits cX1_readDigits 1 none 0 := ⟨⟨tb_t 431 (by decide +kernel) rfl, tb_t 432 (by decide +kernel) rfl, tb_t 433 (by decide +kernel) rfl, tb_t 3 (by decide +kernel) rfl, co_X1_readDigits⟩, rfl, by decide, by decide, by decide +kernel⟩
theorem m_X2_56 : CS RX2 56 yJ13_bitCount_95d88 cJ13_bitCount_95d88 2 (some .int) 1 := ⟨⟨tb_t 239 (by decide +kernel) rfl, tb_t 179 (by decide +kernel) rfl, tb_t 6 (by decide +kernel) rfl, co_J13_bitCount_95d88⟩, by decide, by decide, by decide +kernel⟩
theorem m_X2_72 : CV RX2 72 RX2 yX2_isEither cX2_isEither 3 (some .boolean) 2 := ⟨⟨tb_t 240 (by decide +kernel) rfl, tb_t 241 (by decide +kernel) rfl, tb_t 242 (by decide +kernel) rfl, tb_t 2 (by decide +kernel) rfl, co_X2_isEither⟩, rfl, by decide, by decide, by decide +kernel⟩
theorem m_X2_80 : CV RX2 80 RX2 yX2_nearestTo cX2_nearestTo 5 (some .int) 1 := ⟨⟨tb_t 224 (by decide +kernel) rfl, tb_t 225 (by decide +kernel) rfl, tb_t 226 (by decide +kernel) rfl, tb_t 2 (by decide +kernel) rfl, co_X2_nearestTo⟩, rfl, by decide, by decide, by decide +kernel⟩
theorem m_X2_83 : CV RX2 83 RX2 yX2_costOf cX2_costOf 6 (some .int) 2 := ⟨⟨tb_t 232 (by decide +kernel) rfl, tb_t 233 (by decide +kernel) rfl, tb_t 234 (by decide +kernel) rfl, tb_t 2 (by decide +kernel) rfl, co_X2_costOf⟩, rfl, by decide, by decide, by decide +kernel⟩
theorem m_X2_89 : CV RX2 89 RX2 yX2_goalOf cX2_goalOf 6 (some .int) 1 := ⟨⟨tb_t 251 (by decide +kernel) rfl, tb_t 221 (by decide +kernel) rfl, tb_t 222 (by decide +kernel) rfl, tb_t 2 (by decide +kernel) rfl, co_X2_goalOf⟩, rfl, by decide, by decide, by decide +kernel⟩
theorem m_X2_92 : CS RX2 92 yX2_sortSpoiltBy cX2_sortSpoiltBy 1 (some .int) 1 := ⟨⟨tb_t 294 (by decide +kernel) rfl, tb_t 295 (by decide +kernel) rfl, tb_t 2 (by decide +kernel) rfl, co_X2_sortSpoiltBy⟩, by decide, by decide, by decide +kernel⟩
theorem m_X2_95 : CS RX2 95 yX2_sortSpoiltTo cX2_sortSpoiltTo 1 (some .int) 1 := ⟨⟨tb_t 297 (by decide +kernel) rfl, tb_t 298 (by decide +kernel) rfl, tb_t 2 (by decide +kernel) rfl, co_X2_sortSpoiltTo⟩, by decide, by decide, by decide +kernel⟩
theorem m_X2_98 : CS RX2 98 yX2_cellAtSide cX2_cellAtSide 3 (some .int) 2 := ⟨⟨tb_t 291 (by decide +kernel) rfl, tb_t 292 (by decide +kernel) rfl, tb_t 2 (by decide +kernel) rfl, co_X2_cellAtSide⟩, by decide, by decide, by decide +kernel⟩
theorem m_X2_101 : CV RX2 101 RX2 yX2_paint cX2_paint 8 (some .int) 3 := ⟨⟨tb_t 290 (by decide +kernel) rfl, tb_t 157 (by decide +kernel) rfl, tb_t 158 (by decide +kernel) rfl, tb_t 2 (by decide +kernel) rfl, co_X2_paint⟩, rfl, by decide, by decide, by decide +kernel⟩
theorem m_X2_109 : CV RX2 109 RX2 yX2_mendFree cX2_mendFree 6 none 2 := ⟨⟨tb_t 286 (by decide +kernel) rfl, tb_t 287 (by decide +kernel) rfl, tb_t 288 (by decide +kernel) rfl, tb_t 2 (by decide +kernel) rfl, co_X2_mendFree⟩, rfl, by decide, by decide, by decide +kernel⟩
theorem m_X2_113 : CV RX2 113 RX2 yX2_wrongOnceMended cX2_wrongOnceMended 11 (some .long) 2 := ⟨⟨tb_t 366 (by decide +kernel) rfl, tb_t 367 (by decide +kernel) rfl, tb_t 368 (by decide +kernel) rfl, tb_t 2 (by decide +kernel) rfl, co_X2_wrongOnceMended⟩, rfl, by decide, by decide, by decide +kernel⟩
theorem m_X2_117 : CV RX2 117 RX2 yX2_workOneYear cX2_workOneYear 4 none 1 := ⟨⟨tb_t 312 (by decide +kernel) rfl, tb_t 313 (by decide +kernel) rfl, tb_t 314 (by decide +kernel) rfl, tb_t 2 (by decide +kernel) rfl, co_X2_workOneYear⟩, rfl, by decide, by decide, by decide +kernel⟩
theorem m_X2_121 : CV RX2 121 RX2 yX2_howManyWrong cX2_howManyWrong 1 (some .int) 0 := ⟨⟨tb_t 317 (by decide +kernel) rfl, tb_t 301 (by decide +kernel) rfl, tb_t 302 (by decide +kernel) rfl, tb_t 2 (by decide +kernel) rfl, co_X2_howManyWrong⟩, rfl, by decide, by decide, by decide +kernel⟩
theorem m_X2_125 : CV RX2 125 RX2 yX2_payAndMend cX2_payAndMend 4 none 3 := ⟨⟨tb_t 316 (by decide +kernel) rfl, tb_t 279 (by decide +kernel) rfl, tb_t 280 (by decide +kernel) rfl, tb_t 2 (by decide +kernel) rfl, co_X2_payAndMend⟩, rfl, by decide, by decide, by decide +kernel⟩
theorem m_L_13 : CV RL 13 RX3 yX3_draw cX3_draw 4 (some .int) 3 := ⟨⟨tb_t 141 (by decide +kernel) rfl, tb_t 142 (by decide +kernel) rfl, tb_t 143 (by decide +kernel) rfl, tb_t 1 (by decide +kernel) rfl, co_X3_draw⟩, rfl, by decide, by decide, by decide +kernel⟩
theorem m_L_17 : CV RL 17 RX4 yX4_draw cX4_draw 4 (some .int) 3 := ⟨⟨tb_t 685 (by decide +kernel) rfl, tb_t 686 (by decide +kernel) rfl, tb_t 687 (by decide +kernel) rfl, tb_t 5 (by decide +kernel) rfl, co_X4_draw⟩, rfl, by decide, by decide, by decide +kernel⟩
theorem m_L_18 : CV RL 18 RX3 yX3_cell cX3_cell 3 (some .int) 2 := ⟨⟨tb_t 161 (by decide +kernel) rfl, tb_t 162 (by decide +kernel) rfl, tb_t 163 (by decide +kernel) rfl, tb_t 1 (by decide +kernel) rfl, co_X3_cell⟩, rfl, by decide, by decide, by decide +kernel⟩
theorem m_L_22 : CV RL 22 RX4 yX4_cell cX4_cell 3 (some .int) 2 := ⟨⟨tb_t 706 (by decide +kernel) rfl, tb_t 707 (by decide +kernel) rfl, tb_t 708 (by decide +kernel) rfl, tb_t 5 (by decide +kernel) rfl, co_X4_cell⟩, rfl, by decide, by decide, by decide +kernel⟩
theorem m_L_23 : CV RL 23 RX3 yX3_cells cX3_cells 2 (some .long) 1 := ⟨⟨tb_t 188 (by decide +kernel) rfl, tb_t 189 (by decide +kernel) rfl, tb_t 190 (by decide +kernel) rfl, tb_t 1 (by decide +kernel) rfl, co_X3_cells⟩, rfl, by decide, by decide, by decide +kernel⟩
theorem m_L_27 : CV RL 27 RX4 yX4_cells cX4_cells 5 (some .long) 1 := ⟨⟨tb_t 733 (by decide +kernel) rfl, tb_t 734 (by decide +kernel) rfl, tb_t 735 (by decide +kernel) rfl, tb_t 5 (by decide +kernel) rfl, co_X4_cells⟩, rfl, by decide, by decide, by decide +kernel⟩
theorem m_L_28 : CV RL 28 RX3 yX3_income cX3_income 3 (some .int) 1 := ⟨⟨tb_t 196 (by decide +kernel) rfl, tb_t 197 (by decide +kernel) rfl, tb_t 198 (by decide +kernel) rfl, tb_t 1 (by decide +kernel) rfl, co_X3_income⟩, rfl, by decide, by decide, by decide +kernel⟩
theorem m_L_32 : CV RL 32 RX4 yX4_income cX4_income 2 (some .int) 1 := ⟨⟨tb_t 738 (by decide +kernel) rfl, tb_t 739 (by decide +kernel) rfl, tb_t 740 (by decide +kernel) rfl, tb_t 5 (by decide +kernel) rfl, co_X4_income⟩, rfl, by decide, by decide, by decide +kernel⟩
theorem m_L_33 : CV RL 33 RX3 yX3_mender cX3_mender 3 (some .int) 2 := ⟨⟨tb_t 200 (by decide +kernel) rfl, tb_t 201 (by decide +kernel) rfl, tb_t 202 (by decide +kernel) rfl, tb_t 1 (by decide +kernel) rfl, co_X3_mender⟩, rfl, by decide, by decide, by decide +kernel⟩
theorem m_L_36 : CV RL 36 RX4 yX4_mender cX4_mender 3 (some .int) 2 := ⟨⟨tb_t 743 (by decide +kernel) rfl, tb_t 744 (by decide +kernel) rfl, tb_t 745 (by decide +kernel) rfl, tb_t 5 (by decide +kernel) rfl, co_X4_mender⟩, rfl, by decide, by decide, by decide +kernel⟩
theorem m_L_37 : CV RL 37 RX3 yX3_of cX3_of 3 (some .int) 2 := ⟨⟨tb_t 212 (by decide +kernel) rfl, tb_t 213 (by decide +kernel) rfl, tb_t 214 (by decide +kernel) rfl, tb_t 1 (by decide +kernel) rfl, co_X3_of⟩, rfl, by decide, by decide, by decide +kernel⟩
theorem m_L_40 : CV RL 40 RX4 yX4_of cX4_of 4 (some .int) 2 := ⟨⟨tb_t 755 (by decide +kernel) rfl, tb_t 756 (by decide +kernel) rfl, tb_t 757 (by decide +kernel) rfl, tb_t 5 (by decide +kernel) rfl, co_X4_of⟩, rfl, by decide, by decide, by decide +kernel⟩
theorem m_L_41 : CV RL 41 RX3 yX3_set cX3_set 7 (some .int) 3 := ⟨⟨tb_t 252 (by decide +kernel) rfl, tb_t 253 (by decide +kernel) rfl, tb_t 254 (by decide +kernel) rfl, tb_t 1 (by decide +kernel) rfl, co_X3_set⟩, rfl, by decide, by decide, by decide +kernel⟩
theorem m_L_44 : CV RL 44 RX4 yX4_set cX4_set 5 (some .int) 3 := ⟨⟨tb_t 777 (by decide +kernel) rfl, tb_t 778 (by decide +kernel) rfl, tb_t 779 (by decide +kernel) rfl, tb_t 5 (by decide +kernel) rfl, co_X4_set⟩, rfl, by decide, by decide, by decide +kernel⟩
theorem m_L_45 : CV RL 45 RX3 yX3_turn cX3_turn 4 (some .int) 2 := ⟨⟨tb_t 256 (by decide +kernel) rfl, tb_t 257 (by decide +kernel) rfl, tb_t 258 (by decide +kernel) rfl, tb_t 1 (by decide +kernel) rfl, co_X3_turn⟩, rfl, by decide, by decide, by decide +kernel⟩
theorem m_L_48 : CV RL 48 RX4 yX4_turn cX4_turn 3 (some .int) 2 := ⟨⟨tb_t 782 (by decide +kernel) rfl, tb_t 783 (by decide +kernel) rfl, tb_t 784 (by decide +kernel) rfl, tb_t 5 (by decide +kernel) rfl, co_X4_turn⟩, rfl, by decide, by decide, by decide +kernel⟩
theorem m_L_49 : CV RL 49 RX3 yX3_as cX3_as 3 (some .int) 2 := ⟨⟨tb_t 260 (by decide +kernel) rfl, tb_t 261 (by decide +kernel) rfl, tb_t 262 (by decide +kernel) rfl, tb_t 1 (by decide +kernel) rfl, co_X3_as⟩, rfl, by decide, by decide, by decide +kernel⟩
theorem m_L_52 : CV RL 52 RX4 yX4_as cX4_as 3 (some .int) 2 := ⟨⟨tb_t 786 (by decide +kernel) rfl, tb_t 787 (by decide +kernel) rfl, tb_t 788 (by decide +kernel) rfl, tb_t 5 (by decide +kernel) rfl, co_X4_as⟩, rfl, by decide, by decide, by decide +kernel⟩
theorem m_L_53 : CV RL 53 RX3 yX3_cost cX3_cost 3 (some .int) 2 := ⟨⟨tb_t 268 (by decide +kernel) rfl, tb_t 269 (by decide +kernel) rfl, tb_t 270 (by decide +kernel) rfl, tb_t 1 (by decide +kernel) rfl, co_X3_cost⟩, rfl, by decide, by decide, by decide +kernel⟩
theorem m_L_56 : CV RL 56 RX4 yX4_cost cX4_cost 3 (some .int) 2 := ⟨⟨tb_t 794 (by decide +kernel) rfl, tb_t 795 (by decide +kernel) rfl, tb_t 796 (by decide +kernel) rfl, tb_t 5 (by decide +kernel) rfl, co_X4_cost⟩, rfl, by decide, by decide, by decide +kernel⟩
theorem m_L_57 : CV RL 57 RX3 yX3_mend cX3_mend 4 (some .int) 2 := ⟨⟨tb_t 274 (by decide +kernel) rfl, tb_t 275 (by decide +kernel) rfl, tb_t 276 (by decide +kernel) rfl, tb_t 1 (by decide +kernel) rfl, co_X3_mend⟩, rfl, by decide, by decide, by decide +kernel⟩
theorem m_L_60 : CV RL 60 RX4 yX4_mend cX4_mend 3 (some .int) 2 := ⟨⟨tb_t 799 (by decide +kernel) rfl, tb_t 800 (by decide +kernel) rfl, tb_t 801 (by decide +kernel) rfl, tb_t 5 (by decide +kernel) rfl, co_X4_mend⟩, rfl, by decide, by decide, by decide +kernel⟩
theorem m_L_61 : CV RL 61 RX3 yX3_years cX3_years 2 (some .int) 1 := ⟨⟨tb_t 304 (by decide +kernel) rfl, tb_t 305 (by decide +kernel) rfl, tb_t 306 (by decide +kernel) rfl, tb_t 1 (by decide +kernel) rfl, co_X3_years⟩, rfl, by decide, by decide, by decide +kernel⟩
theorem m_L_64 : CV RL 64 RX4 yX4_years cX4_years 2 (some .int) 1 := ⟨⟨tb_t 816 (by decide +kernel) rfl, tb_t 817 (by decide +kernel) rfl, tb_t 818 (by decide +kernel) rfl, tb_t 5 (by decide +kernel) rfl, co_X4_years⟩, rfl, by decide, by decide, by decide +kernel⟩
theorem m_L_65 : CV RL 65 RX3 yX3_now cX3_now 2 (some .int) 1 := ⟨⟨tb_t 318 (by decide +kernel) rfl, tb_t 319 (by decide +kernel) rfl, tb_t 320 (by decide +kernel) rfl, tb_t 1 (by decide +kernel) rfl, co_X3_now⟩, rfl, by decide, by decide, by decide +kernel⟩
theorem m_L_68 : CV RL 68 RX4 yX4_now cX4_now 2 (some .int) 1 := ⟨⟨tb_t 829 (by decide +kernel) rfl, tb_t 830 (by decide +kernel) rfl, tb_t 831 (by decide +kernel) rfl, tb_t 5 (by decide +kernel) rfl, co_X4_now⟩, rfl, by decide, by decide, by decide +kernel⟩
theorem m_L_69 : CV RL 69 RX3 yX3_on cX3_on 4 (some .int) 3 := ⟨⟨tb_t 326 (by decide +kernel) rfl, tb_t 327 (by decide +kernel) rfl, tb_t 328 (by decide +kernel) rfl, tb_t 1 (by decide +kernel) rfl, co_X3_on⟩, rfl, by decide, by decide, by decide +kernel⟩
theorem m_L_72 : CV RL 72 RX4 yX4_on cX4_on 4 (some .int) 3 := ⟨⟨tb_t 837 (by decide +kernel) rfl, tb_t 838 (by decide +kernel) rfl, tb_t 839 (by decide +kernel) rfl, tb_t 5 (by decide +kernel) rfl, co_X4_on⟩, rfl, by decide, by decide, by decide +kernel⟩
theorem m_L_73 : CV RL 73 RX3 yX3_wrong cX3_wrong 2 (some .int) 1 := ⟨⟨tb_t 337 (by decide +kernel) rfl, tb_t 338 (by decide +kernel) rfl, tb_t 339 (by decide +kernel) rfl, tb_t 1 (by decide +kernel) rfl, co_X3_wrong⟩, rfl, by decide, by decide, by decide +kernel⟩
theorem m_L_76 : CV RL 76 RX4 yX4_wrong cX4_wrong 2 (some .int) 1 := ⟨⟨tb_t 850 (by decide +kernel) rfl, tb_t 851 (by decide +kernel) rfl, tb_t 852 (by decide +kernel) rfl, tb_t 5 (by decide +kernel) rfl, co_X4_wrong⟩, rfl, by decide, by decide, by decide +kernel⟩
theorem m_L_77 : CV RL 77 RX3 yX3_done cX3_done 2 (some .int) 0 := ⟨⟨tb_t 341 (by decide +kernel) rfl, tb_t 342 (by decide +kernel) rfl, tb_t 343 (by decide +kernel) rfl, tb_t 1 (by decide +kernel) rfl, co_X3_done⟩, rfl, by decide, by decide, by decide +kernel⟩
theorem m_L_81 : CV RL 81 RX4 yX4_done cX4_done 3 (some .int) 0 := ⟨⟨tb_t 858 (by decide +kernel) rfl, tb_t 859 (by decide +kernel) rfl, tb_t 860 (by decide +kernel) rfl, tb_t 5 (by decide +kernel) rfl, co_X4_done⟩, rfl, by decide, by decide, by decide +kernel⟩
theorem m_L_82 : CV RL 82 RX3 yX3_when cX3_when 3 (some .int) 1 := ⟨⟨tb_t 350 (by decide +kernel) rfl, tb_t 351 (by decide +kernel) rfl, tb_t 352 (by decide +kernel) rfl, tb_t 1 (by decide +kernel) rfl, co_X3_when⟩, rfl, by decide, by decide, by decide +kernel⟩
theorem m_L_85 : CV RL 85 RX4 yX4_when cX4_when 4 (some .int) 1 := ⟨⟨tb_t 863 (by decide +kernel) rfl, tb_t 864 (by decide +kernel) rfl, tb_t 865 (by decide +kernel) rfl, tb_t 5 (by decide +kernel) rfl, co_X4_when⟩, rfl, by decide, by decide, by decide +kernel⟩
theorem m_L_86 : CV RL 86 RX3 yX3_cheapest cX3_cheapest 6 (some .int) 1 := ⟨⟨tb_t 354 (by decide +kernel) rfl, tb_t 355 (by decide +kernel) rfl, tb_t 356 (by decide +kernel) rfl, tb_t 1 (by decide +kernel) rfl, co_X3_cheapest⟩, rfl, by decide, by decide, by decide +kernel⟩
theorem m_L_89 : CV RL 89 RX4 yX4_cheapest cX4_cheapest 4 (some .int) 1 := ⟨⟨tb_t 867 (by decide +kernel) rfl, tb_t 868 (by decide +kernel) rfl, tb_t 869 (by decide +kernel) rfl, tb_t 5 (by decide +kernel) rfl, co_X4_cheapest⟩, rfl, by decide, by decide, by decide +kernel⟩
theorem m_L_90 : CV RL 90 RX3 yX3_best cX3_best 3 (some .int) 1 := ⟨⟨tb_t 358 (by decide +kernel) rfl, tb_t 359 (by decide +kernel) rfl, tb_t 360 (by decide +kernel) rfl, tb_t 1 (by decide +kernel) rfl, co_X3_best⟩, rfl, by decide, by decide, by decide +kernel⟩
theorem m_L_93 : CV RL 93 RX4 yX4_best cX4_best 6 (some .int) 1 := ⟨⟨tb_t 871 (by decide +kernel) rfl, tb_t 872 (by decide +kernel) rfl, tb_t 873 (by decide +kernel) rfl, tb_t 5 (by decide +kernel) rfl, co_X4_best⟩, rfl, by decide, by decide, by decide +kernel⟩
theorem m_L_94 : CV RL 94 RX3 yX3_two cX3_two 3 (some .int) 1 := ⟨⟨tb_t 370 (by decide +kernel) rfl, tb_t 371 (by decide +kernel) rfl, tb_t 372 (by decide +kernel) rfl, tb_t 1 (by decide +kernel) rfl, co_X3_two⟩, rfl, by decide, by decide, by decide +kernel⟩
theorem m_L_97 : CV RL 97 RX4 yX4_two cX4_two 3 (some .int) 1 := ⟨⟨tb_t 875 (by decide +kernel) rfl, tb_t 876 (by decide +kernel) rfl, tb_t 877 (by decide +kernel) rfl, tb_t 5 (by decide +kernel) rfl, co_X4_two⟩, rfl, by decide, by decide, by decide +kernel⟩
theorem m_L_98 : CV RL 98 RX3 yX3_left cX3_left 3 (some .int) 1 := ⟨⟨tb_t 380 (by decide +kernel) rfl, tb_t 381 (by decide +kernel) rfl, tb_t 382 (by decide +kernel) rfl, tb_t 1 (by decide +kernel) rfl, co_X3_left⟩, rfl, by decide, by decide, by decide +kernel⟩
theorem m_L_101 : CV RL 101 RX4 yX4_left cX4_left 2 (some .int) 1 := ⟨⟨tb_t 891 (by decide +kernel) rfl, tb_t 892 (by decide +kernel) rfl, tb_t 893 (by decide +kernel) rfl, tb_t 5 (by decide +kernel) rfl, co_X4_left⟩, rfl, by decide, by decide, by decide +kernel⟩
theorem m_L_102 : CV RL 102 RX3 yX3_kind cX3_kind 7 (some .int) 2 := ⟨⟨tb_t 384 (by decide +kernel) rfl, tb_t 385 (by decide +kernel) rfl, tb_t 386 (by decide +kernel) rfl, tb_t 1 (by decide +kernel) rfl, co_X3_kind⟩, rfl, by decide, by decide, by decide +kernel⟩
theorem m_L_105 : CV RL 105 RX4 yX4_kind cX4_kind 8 (some .int) 2 := ⟨⟨tb_t 895 (by decide +kernel) rfl, tb_t 896 (by decide +kernel) rfl, tb_t 897 (by decide +kernel) rfl, tb_t 5 (by decide +kernel) rfl, co_X4_kind⟩, rfl, by decide, by decide, by decide +kernel⟩
theorem m_L_106 : CV RL 106 RX3 yX3_purse cX3_purse 5 (some .int) 2 := ⟨⟨tb_t 388 (by decide +kernel) rfl, tb_t 389 (by decide +kernel) rfl, tb_t 390 (by decide +kernel) rfl, tb_t 1 (by decide +kernel) rfl, co_X3_purse⟩, rfl, by decide, by decide, by decide +kernel⟩
theorem m_L_109 : CV RL 109 RX4 yX4_purse cX4_purse 6 (some .int) 2 := ⟨⟨tb_t 899 (by decide +kernel) rfl, tb_t 900 (by decide +kernel) rfl, tb_t 901 (by decide +kernel) rfl, tb_t 5 (by decide +kernel) rfl, co_X4_purse⟩, rfl, by decide, by decide, by decide +kernel⟩
theorem m_L_110 : CV RL 110 RX3 yX3_needed cX3_needed 6 (some .int) 1 := ⟨⟨tb_t 396 (by decide +kernel) rfl, tb_t 397 (by decide +kernel) rfl, tb_t 398 (by decide +kernel) rfl, tb_t 1 (by decide +kernel) rfl, co_X3_needed⟩, rfl, by decide, by decide, by decide +kernel⟩
theorem m_L_113 : CV RL 113 RX4 yX4_needed cX4_needed 5 (some .int) 1 := ⟨⟨tb_t 903 (by decide +kernel) rfl, tb_t 904 (by decide +kernel) rfl, tb_t 905 (by decide +kernel) rfl, tb_t 5 (by decide +kernel) rfl, co_X4_needed⟩, rfl, by decide, by decide, by decide +kernel⟩
theorem m_L_114 : CV RL 114 RX3 yX3_way cX3_way 11 (some .int) 3 := ⟨⟨tb_t 400 (by decide +kernel) rfl, tb_t 401 (by decide +kernel) rfl, tb_t 402 (by decide +kernel) rfl, tb_t 1 (by decide +kernel) rfl, co_X3_way⟩, rfl, by decide, by decide, by decide +kernel⟩
theorem m_L_117 : CV RL 117 RX4 yX4_way cX4_way 8 (some .int) 3 := ⟨⟨tb_t 907 (by decide +kernel) rfl, tb_t 908 (by decide +kernel) rfl, tb_t 909 (by decide +kernel) rfl, tb_t 5 (by decide +kernel) rfl, co_X4_way⟩, rfl, by decide, by decide, by decide +kernel⟩
theorem m_L_118 : CV RL 118 RX3 yX3_feed cX3_feed 4 (some .int) 2 := ⟨⟨tb_t 405 (by decide +kernel) rfl, tb_t 406 (by decide +kernel) rfl, tb_t 407 (by decide +kernel) rfl, tb_t 1 (by decide +kernel) rfl, co_X3_feed⟩, rfl, by decide, by decide, by decide +kernel⟩
theorem m_L_121 : CV RL 121 RX4 yX4_feed cX4_feed 4 (some .int) 2 := ⟨⟨tb_t 915 (by decide +kernel) rfl, tb_t 916 (by decide +kernel) rfl, tb_t 917 (by decide +kernel) rfl, tb_t 5 (by decide +kernel) rfl, co_X4_feed⟩, rfl, by decide, by decide, by decide +kernel⟩
theorem m_L_122 : CV RL 122 RX3 yX3_wipe cX3_wipe 2 (some .int) 0 := ⟨⟨tb_t 409 (by decide +kernel) rfl, tb_t 410 (by decide +kernel) rfl, tb_t 411 (by decide +kernel) rfl, tb_t 1 (by decide +kernel) rfl, co_X3_wipe⟩, rfl, by decide, by decide, by decide +kernel⟩
theorem m_L_125 : CV RL 125 RX4 yX4_wipe cX4_wipe 2 (some .int) 0 := ⟨⟨tb_t 919 (by decide +kernel) rfl, tb_t 920 (by decide +kernel) rfl, tb_t 921 (by decide +kernel) rfl, tb_t 5 (by decide +kernel) rfl, co_X4_wipe⟩, rfl, by decide, by decide, by decide +kernel⟩
theorem m_L_126 : CV RL 126 RX3 yX3_map cX3_map 2 (some .int) 0 := ⟨⟨tb_t 413 (by decide +kernel) rfl, tb_t 414 (by decide +kernel) rfl, tb_t 415 (by decide +kernel) rfl, tb_t 1 (by decide +kernel) rfl, co_X3_map⟩, rfl, by decide, by decide, by decide +kernel⟩
theorem m_L_129 : CV RL 129 RX4 yX4_map cX4_map 2 (some .int) 0 := ⟨⟨tb_t 923 (by decide +kernel) rfl, tb_t 924 (by decide +kernel) rfl, tb_t 925 (by decide +kernel) rfl, tb_t 5 (by decide +kernel) rfl, co_X4_map⟩, rfl, by decide, by decide, by decide +kernel⟩
theorem m_L_130 : CV RL 130 RX3 yX3_sheet cX3_sheet 4 (some .int) 3 := ⟨⟨tb_t 543 (by decide +kernel) rfl, tb_t 544 (by decide +kernel) rfl, tb_t 545 (by decide +kernel) rfl, tb_t 1 (by decide +kernel) rfl, co_X3_sheet⟩, rfl, by decide, by decide, by decide +kernel⟩
theorem m_L_133 : CV RL 133 RX4 yX4_sheet cX4_sheet 5 (some .int) 3 := ⟨⟨tb_t 997 (by decide +kernel) rfl, tb_t 998 (by decide +kernel) rfl, tb_t 999 (by decide +kernel) rfl, tb_t 5 (by decide +kernel) rfl, co_X4_sheet⟩, rfl, by decide, by decide, by decide +kernel⟩
theorem m_L_136 : CV RL 136 RX3 yX3_write cX3_write 5 (some .long) 3 := ⟨⟨tb_t 555 (by decide +kernel) rfl, tb_t 556 (by decide +kernel) rfl, tb_t 557 (by decide +kernel) rfl, tb_t 1 (by decide +kernel) rfl, co_X3_write⟩, rfl, by decide, by decide, by decide +kernel⟩
theorem m_L_140 : CV RL 140 RX4 yX4_write cX4_write 8 (some .long) 3 := ⟨⟨tb_t 1006 (by decide +kernel) rfl, tb_t 1007 (by decide +kernel) rfl, tb_t 1008 (by decide +kernel) rfl, tb_t 5 (by decide +kernel) rfl, co_X4_write⟩, rfl, by decide, by decide, by decide +kernel⟩
theorem m_L_141 : CV RL 141 RX3 yX3_copy cX3_copy 8 (some .int) 5 := ⟨⟨tb_t 572 (by decide +kernel) rfl, tb_t 573 (by decide +kernel) rfl, tb_t 574 (by decide +kernel) rfl, tb_t 1 (by decide +kernel) rfl, co_X3_copy⟩, rfl, by decide, by decide, by decide +kernel⟩
theorem m_L_145 : CV RL 145 RX4 yX4_copy cX4_copy 7 (some .int) 5 := ⟨⟨tb_t 1018 (by decide +kernel) rfl, tb_t 1019 (by decide +kernel) rfl, tb_t 1020 (by decide +kernel) rfl, tb_t 5 (by decide +kernel) rfl, co_X4_copy⟩, rfl, by decide, by decide, by decide +kernel⟩
theorem m_L_146 : CV RL 146 RX3 yX3_lays cX3_lays 7 (some .int) 1 := ⟨⟨tb_t 581 (by decide +kernel) rfl, tb_t 582 (by decide +kernel) rfl, tb_t 583 (by decide +kernel) rfl, tb_t 1 (by decide +kernel) rfl, co_X3_lays⟩, rfl, by decide, by decide, by decide +kernel⟩
theorem m_L_149 : CV RL 149 RX4 yX4_lays cX4_lays 6 (some .int) 1 := ⟨⟨tb_t 1022 (by decide +kernel) rfl, tb_t 1023 (by decide +kernel) rfl, tb_t 1024 (by decide +kernel) rfl, tb_t 5 (by decide +kernel) rfl, co_X4_lays⟩, rfl, by decide, by decide, by decide +kernel⟩
theorem m_L_150 : CV RL 150 RX3 yX3_book cX3_book 4 (some .int) 1 := ⟨⟨tb_t 586 (by decide +kernel) rfl, tb_t 587 (by decide +kernel) rfl, tb_t 588 (by decide +kernel) rfl, tb_t 1 (by decide +kernel) rfl, co_X3_book⟩, rfl, by decide, by decide, by decide +kernel⟩
theorem m_L_153 : CV RL 153 RX4 yX4_book cX4_book 4 (some .int) 1 := ⟨⟨tb_t 1026 (by decide +kernel) rfl, tb_t 1027 (by decide +kernel) rfl, tb_t 1028 (by decide +kernel) rfl, tb_t 5 (by decide +kernel) rfl, co_X4_book⟩, rfl, by decide, by decide, by decide +kernel⟩
theorem m_L_154 : CV RL 154 RX3 yX3_read cX3_read 6 (some .int) 2 := ⟨⟨tb_t 590 (by decide +kernel) rfl, tb_t 591 (by decide +kernel) rfl, tb_t 592 (by decide +kernel) rfl, tb_t 1 (by decide +kernel) rfl, co_X3_read⟩, rfl, by decide, by decide, by decide +kernel⟩
theorem m_L_157 : CV RL 157 RX4 yX4_read cX4_read 6 (some .int) 2 := ⟨⟨tb_t 1030 (by decide +kernel) rfl, tb_t 1031 (by decide +kernel) rfl, tb_t 1032 (by decide +kernel) rfl, tb_t 5 (by decide +kernel) rfl, co_X4_read⟩, rfl, by decide, by decide, by decide +kernel⟩
theorem m_L_158 : CV RL 158 RX3 yX3_image cX3_image 1 (some .int) 0 := ⟨⟨tb_t 598 (by decide +kernel) rfl, tb_t 599 (by decide +kernel) rfl, tb_t 600 (by decide +kernel) rfl, tb_t 1 (by decide +kernel) rfl, co_X3_image⟩, rfl, by decide, by decide, by decide +kernel⟩
theorem m_L_161 : CV RL 161 RX4 yX4_image cX4_image 2 (some .int) 0 := ⟨⟨tb_t 1038 (by decide +kernel) rfl, tb_t 1039 (by decide +kernel) rfl, tb_t 1040 (by decide +kernel) rfl, tb_t 5 (by decide +kernel) rfl, co_X4_image⟩, rfl, by decide, by decide, by decide +kernel⟩
theorem m_L_162 : CV RL 162 RX3 yX3_undo cX3_undo 1 (some .int) 0 := ⟨⟨tb_t 602 (by decide +kernel) rfl, tb_t 603 (by decide +kernel) rfl, tb_t 604 (by decide +kernel) rfl, tb_t 1 (by decide +kernel) rfl, co_X3_undo⟩, rfl, by decide, by decide, by decide +kernel⟩
theorem m_L_165 : CV RL 165 RX4 yX4_undo cX4_undo 2 (some .int) 0 := ⟨⟨tb_t 1042 (by decide +kernel) rfl, tb_t 1043 (by decide +kernel) rfl, tb_t 1044 (by decide +kernel) rfl, tb_t 5 (by decide +kernel) rfl, co_X4_undo⟩, rfl, by decide, by decide, by decide +kernel⟩
theorem m_L_166 : CV RL 166 RX3 yX3_tear cX3_tear 2 (some .int) 0 := ⟨⟨tb_t 606 (by decide +kernel) rfl, tb_t 607 (by decide +kernel) rfl, tb_t 608 (by decide +kernel) rfl, tb_t 1 (by decide +kernel) rfl, co_X3_tear⟩, rfl, by decide, by decide, by decide +kernel⟩
theorem m_L_169 : CV RL 169 RX4 yX4_tear cX4_tear 2 (some .int) 0 := ⟨⟨tb_t 1046 (by decide +kernel) rfl, tb_t 1047 (by decide +kernel) rfl, tb_t 1048 (by decide +kernel) rfl, tb_t 5 (by decide +kernel) rfl, co_X4_tear⟩, rfl, by decide, by decide, by decide +kernel⟩
theorem m_L_170 : CV RL 170 RX3 yX3_count cX3_count 2 (some .int) 1 := ⟨⟨tb_t 610 (by decide +kernel) rfl, tb_t 611 (by decide +kernel) rfl, tb_t 612 (by decide +kernel) rfl, tb_t 1 (by decide +kernel) rfl, co_X3_count⟩, rfl, by decide, by decide, by decide +kernel⟩
theorem m_L_173 : CV RL 173 RX4 yX4_count cX4_count 2 (some .int) 1 := ⟨⟨tb_t 1050 (by decide +kernel) rfl, tb_t 1051 (by decide +kernel) rfl, tb_t 1052 (by decide +kernel) rfl, tb_t 5 (by decide +kernel) rfl, co_X4_count⟩, rfl, by decide, by decide, by decide +kernel⟩
theorem m_L_174 : CV RL 174 RX3 yX3_status cX3_status 4 (some .int) 1 := ⟨⟨tb_t 617 (by decide +kernel) rfl, tb_t 618 (by decide +kernel) rfl, tb_t 619 (by decide +kernel) rfl, tb_t 1 (by decide +kernel) rfl, co_X3_status⟩, rfl, by decide, by decide, by decide +kernel⟩
theorem m_L_177 : CV RL 177 RX4 yX4_status cX4_status 4 (some .int) 1 := ⟨⟨tb_t 1058 (by decide +kernel) rfl, tb_t 1059 (by decide +kernel) rfl, tb_t 1060 (by decide +kernel) rfl, tb_t 5 (by decide +kernel) rfl, co_X4_status⟩, rfl, by decide, by decide, by decide +kernel⟩
theorem m_X4_51 : CS RX4 51 yX4_in cX4_in 6 (some .boolean) 3 := ⟨⟨tb_t 693 (by decide +kernel) rfl, tb_t 694 (by decide +kernel) rfl, tb_t 5 (by decide +kernel) rfl, co_X4_in⟩, by decide, by decide, by decide +kernel⟩
theorem m_X4_57 : CS RX4 57 yX4_spot cX4_spot 2 (some .int) 2 := ⟨⟨tb_t 730 (by decide +kernel) rfl, tb_t 731 (by decide +kernel) rfl, tb_t 5 (by decide +kernel) rfl, co_X4_spot⟩, by decide, by decide, by decide +kernel⟩
theorem m_X4_61 : CV RX4 61 RX4 yX4_isUntrue cX4_isUntrue 2 (some .boolean) 1 := ⟨⟨tb_t 711 (by decide +kernel) rfl, tb_t 713 (by decide +kernel) rfl, tb_s 8 (by decide +kernel) rfl, tb_t 5 (by decide +kernel) rfl, co_X4_isUntrue⟩, rfl, by decide, by decide, by decide +kernel⟩
theorem m_X4_65 : CS RX4 65 yX4_beside cX4_beside 4 (some .int) 2 := ⟨⟨tb_t 719 (by decide +kernel) rfl, tb_t 720 (by decide +kernel) rfl, tb_t 5 (by decide +kernel) rfl, co_X4_beside⟩, by decide, by decide, by decide +kernel⟩
theorem m_X4_68 : CS RX4 68 yX4_isCell cX4_isCell 1 (some .boolean) 1 := ⟨⟨tb_t 689 (by decide +kernel) rfl, tb_t 690 (by decide +kernel) rfl, tb_t 5 (by decide +kernel) rfl, co_X4_isCell⟩, by decide, by decide, by decide +kernel⟩
theorem m_X4_71 : CV RX4 71 RX4 yX4_becomes cX4_becomes 4 (some .int) 2 := ⟨⟨tb_t 697 (by decide +kernel) rfl, tb_t 699 (by decide +kernel) rfl, tb_s 6 (by decide +kernel) rfl, tb_t 5 (by decide +kernel) rfl, co_X4_becomes⟩, rfl, by decide, by decide, by decide +kernel⟩
theorem m_X4_74 : CV RX4 74 RX4 yX4_finds cX4_finds 2 (some .int) 1 := ⟨⟨tb_t 702 (by decide +kernel) rfl, tb_t 704 (by decide +kernel) rfl, tb_s 7 (by decide +kernel) rfl, tb_t 5 (by decide +kernel) rfl, co_X4_finds⟩, rfl, by decide, by decide, by decide +kernel⟩
theorem m_X4_80 : CV RX4 80 RX4 yX4_wrongBeside cX4_wrongBeside 5 (some .int) 1 := ⟨⟨tb_t 715 (by decide +kernel) rfl, tb_t 717 (by decide +kernel) rfl, tb_s 9 (by decide +kernel) rfl, tb_t 5 (by decide +kernel) rfl, co_X4_wrongBeside⟩, rfl, by decide, by decide, by decide +kernel⟩
theorem m_X4_83 : CV RX4 83 RX4 yX4_thoseAt cX4_thoseAt 4 (some .int) 1 := ⟨⟨tb_t 722 (by decide +kernel) rfl, tb_t 724 (by decide +kernel) rfl, tb_s 10 (by decide +kernel) rfl, tb_t 5 (by decide +kernel) rfl, co_X4_thoseAt⟩, rfl, by decide, by decide, by decide +kernel⟩
theorem m_X4_86 : CV RX4 86 RX4 yX4_its cX4_its 3 (some .int) 2 := ⟨⟨tb_t 726 (by decide +kernel) rfl, tb_t 728 (by decide +kernel) rfl, tb_s 11 (by decide +kernel) rfl, tb_t 5 (by decide +kernel) rfl, co_X4_its⟩, rfl, by decide, by decide, by decide +kernel⟩
theorem m_X4_93 : CS RX4 93 yX4_isKind cX4_isKind 1 (some .boolean) 1 := ⟨⟨tb_t 747 (by decide +kernel) rfl, tb_t 748 (by decide +kernel) rfl, tb_t 5 (by decide +kernel) rfl, co_X4_isKind⟩, by decide, by decide, by decide +kernel⟩
theorem m_X4_97 : CV RX4 97 RX4 yX4_adds cX4_adds 4 (some .int) 2 := ⟨⟨tb_t 751 (by decide +kernel) rfl, tb_t 753 (by decide +kernel) rfl, tb_s 12 (by decide +kernel) rfl, tb_t 5 (by decide +kernel) rfl, co_X4_adds⟩, rfl, by decide, by decide, by decide +kernel⟩
theorem m_X4_100 : CS RX4 100 yX4_atLeastOne cX4_atLeastOne 1 (some .int) 1 := ⟨⟨tb_t 771 (by decide +kernel) rfl, tb_t 772 (by decide +kernel) rfl, tb_t 5 (by decide +kernel) rfl, co_X4_atLeastOne⟩, by decide, by decide, by decide +kernel⟩
theorem m_X4_103 : CV RX4 103 RX4 yX4_costOf cX4_costOf 7 (some .int) 2 := ⟨⟨tb_t 767 (by decide +kernel) rfl, tb_t 769 (by decide +kernel) rfl, tb_s 15 (by decide +kernel) rfl, tb_t 5 (by decide +kernel) rfl, co_X4_costOf⟩, rfl, by decide, by decide, by decide +kernel⟩
theorem m_X4_106 : CS RX4 106 yX4_apart cX4_apart 4 (some .int) 2 := ⟨⟨tb_t 774 (by decide +kernel) rfl, tb_t 775 (by decide +kernel) rfl, tb_t 5 (by decide +kernel) rfl, co_X4_apart⟩, by decide, by decide, by decide +kernel⟩
theorem m_X4_109 : CV RX4 109 RX4 yX4_isMender cX4_isMender 2 (some .boolean) 1 := ⟨⟨tb_t 759 (by decide +kernel) rfl, tb_t 761 (by decide +kernel) rfl, tb_s 13 (by decide +kernel) rfl, tb_t 5 (by decide +kernel) rfl, co_X4_isMender⟩, rfl, by decide, by decide, by decide +kernel⟩
theorem m_X4_112 : CV RX4 112 RX4 yX4_goesFor cX4_goesFor 6 (some .int) 1 := ⟨⟨tb_t 763 (by decide +kernel) rfl, tb_t 765 (by decide +kernel) rfl, tb_s 14 (by decide +kernel) rfl, tb_t 5 (by decide +kernel) rfl, co_X4_goesFor⟩, rfl, by decide, by decide, by decide +kernel⟩
theorem m_X4_117 : CS RX4 117 yX4_isUnder cX4_isUnder 2 (some .boolean) 2 := ⟨⟨tb_t 790 (by decide +kernel) rfl, tb_t 791 (by decide +kernel) rfl, tb_t 5 (by decide +kernel) rfl, co_X4_isUnder⟩, by decide, by decide, by decide +kernel⟩
theorem m_X4_124 : CV RX4 124 RX4 yX4_mends cX4_mends 5 none 2 := ⟨⟨tb_t 808 (by decide +kernel) rfl, tb_t 810 (by decide +kernel) rfl, tb_s 17 (by decide +kernel) rfl, tb_t 5 (by decide +kernel) rfl, co_X4_mends⟩, rfl, by decide, by decide, by decide +kernel⟩
theorem m_X4_128 : CV RX4 128 RX4 yX4_pays cX4_pays 5 (some .boolean) 2 := ⟨⟨tb_t 803 (by decide +kernel) rfl, tb_t 805 (by decide +kernel) rfl, tb_s 16 (by decide +kernel) rfl, tb_t 5 (by decide +kernel) rfl, co_X4_pays⟩, rfl, by decide, by decide, by decide +kernel⟩
theorem m_X4_131 : CV RX4 131 RX4 yX4_wrongMany cX4_wrongMany 3 (some .int) 0 := ⟨⟨tb_t 812 (by decide +kernel) rfl, tb_t 814 (by decide +kernel) rfl, tb_s 18 (by decide +kernel) rfl, tb_t 5 (by decide +kernel) rfl, co_X4_wrongMany⟩, rfl, by decide, by decide, by decide +kernel⟩
theorem m_X4_135 : CV RX4 135 RX4 yX4_year cX4_year 5 none 0 := ⟨⟨tb_t 825 (by decide +kernel) rfl, tb_t 827 (by decide +kernel) rfl, tb_s 20 (by decide +kernel) rfl, tb_t 5 (by decide +kernel) rfl, co_X4_year⟩, rfl, by decide, by decide, by decide +kernel⟩
theorem m_X4_140 : CV RX4 140 RX4 yX4_goesOn cX4_goesOn 3 none 1 := ⟨⟨tb_t 821 (by decide +kernel) rfl, tb_t 823 (by decide +kernel) rfl, tb_s 19 (by decide +kernel) rfl, tb_t 5 (by decide +kernel) rfl, co_X4_goesOn⟩, rfl, by decide, by decide, by decide +kernel⟩
theorem m_X4_144 : CV RX4 144 RX4 yX4_together cX4_together 4 (some .int) 1 := ⟨⟨tb_t 833 (by decide +kernel) rfl, tb_t 835 (by decide +kernel) rfl, tb_s 21 (by decide +kernel) rfl, tb_t 5 (by decide +kernel) rfl, co_X4_together⟩, rfl, by decide, by decide, by decide +kernel⟩
theorem m_X4_149 : CV RX4 149 RX4 yX4_laysAside cX4_laysAside 2 none 0 := ⟨⟨tb_t 842 (by decide +kernel) rfl, tb_t 844 (by decide +kernel) rfl, tb_s 22 (by decide +kernel) rfl, tb_t 5 (by decide +kernel) rfl, co_X4_laysAside⟩, rfl, by decide, by decide, by decide +kernel⟩
theorem m_X4_152 : CV RX4 152 RX4 yX4_takesBack cX4_takesBack 3 (some .int) 1 := ⟨⟨tb_t 846 (by decide +kernel) rfl, tb_t 848 (by decide +kernel) rfl, tb_s 23 (by decide +kernel) rfl, tb_t 5 (by decide +kernel) rfl, co_X4_takesBack⟩, rfl, by decide, by decide, by decide +kernel⟩
theorem m_X4_155 : CV RX4 155 RX4 yX4_wrongOn cX4_wrongOn 2 (some .int) 1 := ⟨⟨tb_t 854 (by decide +kernel) rfl, tb_t 856 (by decide +kernel) rfl, tb_s 24 (by decide +kernel) rfl, tb_t 5 (by decide +kernel) rfl, co_X4_wrongOn⟩, rfl, by decide, by decide, by decide +kernel⟩
theorem m_X4_162 : CV RX4 162 RX4 yX4_saves cX4_saves 2 none 0 := ⟨⟨tb_t 883 (by decide +kernel) rfl, tb_t 885 (by decide +kernel) rfl, tb_s 26 (by decide +kernel) rfl, tb_t 5 (by decide +kernel) rfl, co_X4_saves⟩, rfl, by decide, by decide, by decide +kernel⟩
theorem m_X4_165 : CV RX4 165 RX4 yX4_putsBack cX4_putsBack 2 none 0 := ⟨⟨tb_t 887 (by decide +kernel) rfl, tb_t 889 (by decide +kernel) rfl, tb_s 27 (by decide +kernel) rfl, tb_t 5 (by decide +kernel) rfl, co_X4_putsBack⟩, rfl, by decide, by decide, by decide +kernel⟩
theorem m_X4_168 : CV RX4 168 RX4 yX4_findTwo cX4_findTwo 6 (some .int) 1 := ⟨⟨tb_t 879 (by decide +kernel) rfl, tb_t 881 (by decide +kernel) rfl, tb_s 25 (by decide +kernel) rfl, tb_t 5 (by decide +kernel) rfl, co_X4_findTwo⟩, rfl, by decide, by decide, by decide +kernel⟩
theorem m_X4_171 : CV RX4 171 RX4 yX4_isOpen cX4_isOpen 4 (some .boolean) 2 := ⟨⟨tb_t 911 (by decide +kernel) rfl, tb_t 913 (by decide +kernel) rfl, tb_s 28 (by decide +kernel) rfl, tb_t 5 (by decide +kernel) rfl, co_X4_isOpen⟩, rfl, by decide, by decide, by decide +kernel⟩
theorem m_X4_191 : CV RX4 191 RX4 yX4_byteAt cX4_byteAt 2 (some .int) 1 := ⟨⟨tb_t 931 (by decide +kernel) rfl, tb_t 933 (by decide +kernel) rfl, tb_s 30 (by decide +kernel) rfl, tb_t 5 (by decide +kernel) rfl, co_X4_byteAt⟩, rfl, by decide, by decide, by decide +kernel⟩
theorem m_X4_194 : CS RX4 194 yX4_isLetter cX4_isLetter 1 (some .boolean) 1 := ⟨⟨tb_t 935 (by decide +kernel) rfl, tb_t 936 (by decide +kernel) rfl, tb_t 5 (by decide +kernel) rfl, co_X4_isLetter⟩, by decide, by decide, by decide +kernel⟩
theorem m_X4_197 : CS RX4 197 yX4_isDigit cX4_isDigit 1 (some .boolean) 1 := ⟨⟨tb_t 940 (by decide +kernel) rfl, tb_t 941 (by decide +kernel) rfl, tb_t 5 (by decide +kernel) rfl, co_X4_isDigit⟩, by decide, by decide, by decide +kernel⟩
theorem m_X4_204 : CV RX4 204 RX4 yX4_token cX4_token 3 none 0 := ⟨⟨tb_t 927 (by decide +kernel) rfl, tb_t 929 (by decide +kernel) rfl, tb_s 29 (by decide +kernel) rfl, tb_t 5 (by decide +kernel) rfl, co_X4_token⟩, rfl, by decide, by decide, by decide +kernel⟩
theorem m_X4_214 : CV RX4 214 RX4 yX4_must cX4_must 2 none 1 := ⟨⟨tb_t 969 (by decide +kernel) rfl, tb_t 971 (by decide +kernel) rfl, tb_s 35 (by decide +kernel) rfl, tb_t 5 (by decide +kernel) rfl, co_X4_must⟩, rfl, by decide, by decide, by decide +kernel⟩
theorem m_X4_218 : CV RX4 218 RX4 yX4_word cX4_word 4 (some .long) 0 := ⟨⟨tb_t 953 (by decide +kernel) rfl, tb_t 955 (by decide +kernel) rfl, tb_s 33 (by decide +kernel) rfl, tb_t 5 (by decide +kernel) rfl, co_X4_word⟩, rfl, by decide, by decide, by decide +kernel⟩
theorem m_X4_248 : CV RX4 248 RX4 yX4_number cX4_number 6 none 2 := ⟨⟨tb_t 974 (by decide +kernel) rfl, tb_t 976 (by decide +kernel) rfl, tb_s 36 (by decide +kernel) rfl, tb_t 5 (by decide +kernel) rfl, co_X4_number⟩, rfl, by decide, by decide, by decide +kernel⟩
theorem m_X4_253 : CV RX4 253 RX4 yX4_sortHere cX4_sortHere 3 (some .int) 0 := ⟨⟨tb_t 985 (by decide +kernel) rfl, tb_t 987 (by decide +kernel) rfl, tb_s 38 (by decide +kernel) rfl, tb_t 5 (by decide +kernel) rfl, co_X4_sortHere⟩, rfl, by decide, by decide, by decide +kernel⟩
theorem m_X4_258 : CV RX4 258 RX4 yX4_kindHere cX4_kindHere 3 (some .int) 0 := ⟨⟨tb_t 949 (by decide +kernel) rfl, tb_t 951 (by decide +kernel) rfl, tb_s 32 (by decide +kernel) rfl, tb_t 5 (by decide +kernel) rfl, co_X4_kindHere⟩, rfl, by decide, by decide, by decide +kernel⟩
theorem m_X4_261 : CV RX4 261 RX4 yX4_menderItem cX4_menderItem 3 none 1 := ⟨⟨tb_t 965 (by decide +kernel) rfl, tb_t 967 (by decide +kernel) rfl, tb_s 34 (by decide +kernel) rfl, tb_t 5 (by decide +kernel) rfl, co_X4_menderItem⟩, rfl, by decide, by decide, by decide +kernel⟩
theorem m_X4_268 : CV RX4 268 RX4 yX4_cellsItem cX4_cellsItem 6 none 1 := ⟨⟨tb_t 981 (by decide +kernel) rfl, tb_t 983 (by decide +kernel) rfl, tb_s 37 (by decide +kernel) rfl, tb_t 5 (by decide +kernel) rfl, co_X4_cellsItem⟩, rfl, by decide, by decide, by decide +kernel⟩
theorem m_X4_273 : CV RX4 273 RX4 yX4_item cX4_item 4 none 0 := ⟨⟨tb_t 945 (by decide +kernel) rfl, tb_t 947 (by decide +kernel) rfl, tb_s 31 (by decide +kernel) rfl, tb_t 5 (by decide +kernel) rfl, co_X4_item⟩, rfl, by decide, by decide, by decide +kernel⟩
theorem m_X4_278 : CS RX4 278 yX4_isOne cX4_isOne 1 (some .boolean) 1 := ⟨⟨tb_t 1001 (by decide +kernel) rfl, tb_t 1002 (by decide +kernel) rfl, tb_t 5 (by decide +kernel) rfl, co_X4_isOne⟩, by decide, by decide, by decide +kernel⟩
theorem m_X4_283 : CV RX4 283 RX4 yX4_wrongSheet cX4_wrongSheet 2 (some .int) 1 := ⟨⟨tb_t 1010 (by decide +kernel) rfl, tb_t 1012 (by decide +kernel) rfl, tb_s 39 (by decide +kernel) rfl, tb_t 5 (by decide +kernel) rfl, co_X4_wrongSheet⟩, rfl, by decide, by decide, by decide +kernel⟩
theorem m_X4_286 : CS RX4 286 yX4_narrowed cX4_narrowed 3 (some .long) 2 := ⟨⟨tb_t 1015 (by decide +kernel) rfl, tb_t 1016 (by decide +kernel) rfl, tb_t 5 (by decide +kernel) rfl, co_X4_narrowed⟩, by decide, by decide, by decide +kernel⟩
theorem m_X4_290 : CV RX4 290 RX4 yX4_isBook cX4_isBook 3 (some .boolean) 1 := ⟨⟨tb_t 1034 (by decide +kernel) rfl, tb_t 1036 (by decide +kernel) rfl, tb_s 40 (by decide +kernel) rfl, tb_t 5 (by decide +kernel) rfl, co_X4_isBook⟩, rfl, by decide, by decide, by decide +kernel⟩
theorem m_X4_296 : CV RX4 296 RX4 yX4_others cX4_others 4 (some .int) 1 := ⟨⟨tb_t 1054 (by decide +kernel) rfl, tb_t 1056 (by decide +kernel) rfl, tb_s 41 (by decide +kernel) rfl, tb_t 5 (by decide +kernel) rfl, co_X4_others⟩, rfl, by decide, by decide, by decide +kernel⟩
theorem m_J0_335 : CV RJ0 335 RJ0 yJ0_coder_7d493 cJ0_coder_7d493 1 (some .byte) 0 := ⟨⟨tb_t 461 (by decide +kernel) rfl, tb_t 462 (by decide +kernel) rfl, tb_t 463 (by decide +kernel) rfl, tb_t 9 (by decide +kernel) rfl, co_J0_coder_7d493⟩, rfl, by decide, by decide, by decide +kernel⟩
theorem m_J0_492 : CV RJ0 492 RJ0 yJ0_isLatin1_aae02 cJ0_isLatin1_aae02 1 (some .boolean) 0 := ⟨⟨tb_t 471 (by decide +kernel) rfl, tb_t 472 (by decide +kernel) rfl, tb_t 473 (by decide +kernel) rfl, tb_t 9 (by decide +kernel) rfl, co_J0_isLatin1_aae02⟩, rfl, by decide, by decide, by decide +kernel⟩
theorem m_J0_495 : CS RJ0 495 yJ1_charAt_3b067 cJ1_charAt_3b067 2 (some .char) 2 := ⟨⟨tb_t 475 (by decide +kernel) rfl, tb_t 476 (by decide +kernel) rfl, tb_t 10 (by decide +kernel) rfl, co_J1_charAt_3b067⟩, by decide, by decide, by decide +kernel⟩
theorem m_J0_498 : CS RJ0 498 yJ2_charAt_3b067 cJ2_charAt_3b067 2 (some .char) 2 := ⟨⟨tb_t 486 (by decide +kernel) rfl, tb_t 487 (by decide +kernel) rfl, tb_t 12 (by decide +kernel) rfl, co_J2_charAt_3b067⟩, by decide, by decide, by decide +kernel⟩
theorem m_J0_1059 : CS RJ0 1059 yJ3_checkIndex_8e157 cJ3_checkIndex_8e157 3 (some .int) 3 := ⟨⟨tb_t 483 (by decide +kernel) rfl, tb_t 484 (by decide +kernel) rfl, tb_t 11 (by decide +kernel) rfl, co_J3_checkIndex_8e157⟩, by decide, by decide, by decide +kernel⟩
theorem m_J1_9 : CS RJ1 9 yJ0_checkIndex_df160 cJ0_checkIndex_df160 2 none 2 := ⟨⟨tb_t 478 (by decide +kernel) rfl, tb_t 479 (by decide +kernel) rfl, tb_t 9 (by decide +kernel) rfl, co_J0_checkIndex_df160⟩, by decide, by decide, by decide +kernel⟩
theorem m_J2_48 : CS RJ2 48 yJ2_length_9d52b cJ2_length_9d52b 1 (some .int) 1 := ⟨⟨tb_t 492 (by decide +kernel) rfl, tb_t 493 (by decide +kernel) rfl, tb_t 12 (by decide +kernel) rfl, co_J2_length_9d52b⟩, by decide, by decide, by decide +kernel⟩
theorem m_J2_67 : CS RJ2 67 yJ2_checkIndex_2214a cJ2_checkIndex_2214a 2 none 2 := ⟨⟨tb_t 489 (by decide +kernel) rfl, tb_t 490 (by decide +kernel) rfl, tb_t 12 (by decide +kernel) rfl, co_J2_checkIndex_2214a⟩, by decide, by decide, by decide +kernel⟩
theorem m_J2_71 : CS RJ2 71 yJ2_getChar_3b067 cJ2_getChar_3b067 2 (some .char) 2 := ⟨⟨tb_t 496 (by decide +kernel) rfl, tb_t 497 (by decide +kernel) rfl, tb_t 12 (by decide +kernel) rfl, co_J2_getChar_3b067⟩, by decide, by decide, by decide +kernel⟩
theorem m_J2_414 : CS RJ2 414 yJ0_checkIndex_df160 cJ0_checkIndex_df160 2 none 2 := ⟨⟨tb_t 495 (by decide +kernel) rfl, tb_t 479 (by decide +kernel) rfl, tb_t 9 (by decide +kernel) rfl, co_J0_checkIndex_df160⟩, by decide, by decide, by decide +kernel⟩
theorem m_X2_52 : CN RX2 52 yX3_has "TrueMaps" cX3_has 3 (some .boolean) 2 := ⟨⟨List.mem_of_getElem? (i := 0) rfl, tb_t 170 (by decide +kernel) rfl, tb_t 1 (by decide +kernel) rfl, co_X3_has⟩, by decide, by decide, by decide +kernel⟩
theorem m_X2_68 : CN RX2 68 yX3_beside "TrueMaps" cX3_beside 4 (some .long) 1 := ⟨⟨List.mem_of_getElem? (i := 1) rfl, tb_t 173 (by decide +kernel) rfl, tb_t 1 (by decide +kernel) rfl, co_X3_beside⟩, by decide, by decide, by decide +kernel⟩
theorem m_X2_86 : CN RX2 86 yX3_leastOf "TrueMaps" cX3_leastOf 2 (some .int) 1 := ⟨⟨List.mem_of_getElem? (i := 2) rfl, tb_t 230 (by decide +kernel) rfl, tb_t 1 (by decide +kernel) rfl, co_X3_leastOf⟩, by decide, by decide, by decide +kernel⟩
theorem m_X1_138 : Cond.methodLink RX1 138 Lib.Math.min.name ∈ TB := tb_t 435 (by decide +kernel) rfl
theorem m_X2_62 : Cond.methodLink RX2 62 Lib.Math.abs.name ∈ TB := tb_t 236 (by decide +kernel) rfl
theorem m_X2_76 : Cond.methodLink RX2 76 Lib.Math.max.name ∈ TB := tb_t 244 (by decide +kernel) rfl
theorem m_X2_106 : Cond.methodLink RX2 106 Lib.Math.min.name ∈ TB := tb_t 283 (by decide +kernel) rfl
theorem mm_abs : Cond.static Lib.Math.abs.name ∈ TB ∧ Cond.initialized "java/lang/Math" ∈ TB ∧ Cond.code Lib.Math.abs.name Lib.Math.abs.code 1 (some .int) ∈ TB := ⟨tb_t 237 (by decide +kernel) rfl, tb_t 7 (by decide +kernel) rfl, tb_t 238 (by decide +kernel) rfl⟩
theorem mm_max : Cond.static Lib.Math.max.name ∈ TB ∧ Cond.initialized "java/lang/Math" ∈ TB ∧ Cond.code Lib.Math.max.name Lib.Math.max.code 2 (some .int) ∈ TB := ⟨tb_t 245 (by decide +kernel) rfl, tb_t 7 (by decide +kernel) rfl, tb_t 246 (by decide +kernel) rfl⟩
theorem mm_min : Cond.static Lib.Math.min.name ∈ TB ∧ Cond.initialized "java/lang/Math" ∈ TB ∧ Cond.code Lib.Math.min.name Lib.Math.min.code 2 (some .int) ∈ TB := ⟨tb_t 284 (by decide +kernel) rfl, tb_t 7 (by decide +kernel) rfl, tb_t 285 (by decide +kernel) rfl⟩
section FR
variable {p : Program} {l : Launch} {e : Env} {R : Room} {s : State} {m : MethodId} {args : Array Value} {below : List Frame} {meth : Method} {c : Code} {H : Heap} {locs : List Loc} {cells slots : Nat} {Q : State → Prop}
variable {cc : ByteArray} {nL : Nat} {rt : Option FieldType} {D : va_G} {k : Nat → ClassId} {pc : Nat} {ls : Array Slot} {rest : List Value} {w : va_W} {A : Nat → Prop} {H0 : Heap} {a : Nat} {fs : List Value} {v : Value}
theorem g_X3_10 (C : Cx p s m args meth c cc nL RX3 rt D k) (hP : va_P D vwCl w H) (q0 : Nat) (he : w[q0]? = some (a, .inr (3, fs))) (hv : fs[0]? = some v) (hd : decode cc pc = .ok (.getfield 10, 3)) (kk : W p l e R s m args below meth c H locs cells slots Q (F0 m (pc + 3) ls (v :: rest))) : W p l e R s m args below meth c H locs cells slots Q (F0 m pc ls (.ref a :: rest)) := r_get C hP q0 0 (ci := 3) (Cn := RX3) (T := TX3) (N := 7) rfl inTX3 (by decide) fl_X3_10 rfl he hv hd kk
theorem g_X3_16 (C : Cx p s m args meth c cc nL RX3 rt D k) (hP : va_P D vwCl w H) (q0 : Nat) (he : w[q0]? = some (a, .inr (3, fs))) (hv : fs[1]? = some v) (hd : decode cc pc = .ok (.getfield 16, 3)) (kk : W p l e R s m args below meth c H locs cells slots Q (F0 m (pc + 3) ls (v :: rest))) : W p l e R s m args below meth c H locs cells slots Q (F0 m pc ls (.ref a :: rest)) := r_get C hP q0 1 (ci := 3) (Cn := RX3) (T := TX3) (N := 7) rfl inTX3 (by decide) fl_X3_16 rfl he hv hd kk
theorem g_X3_19 (C : Cx p s m args meth c cc nL RX3 rt D k) (hP : va_P D vwCl w H) (q0 : Nat) (he : w[q0]? = some (a, .inr (3, fs))) (hv : fs[2]? = some v) (hd : decode cc pc = .ok (.getfield 19, 3)) (kk : W p l e R s m args below meth c H locs cells slots Q (F0 m (pc + 3) ls (v :: rest))) : W p l e R s m args below meth c H locs cells slots Q (F0 m pc ls (.ref a :: rest)) := r_get C hP q0 2 (ci := 3) (Cn := RX3) (T := TX3) (N := 7) rfl inTX3 (by decide) fl_X3_19 rfl he hv hd kk
theorem g_X3_25 (C : Cx p s m args meth c cc nL RX3 rt D k) (hP : va_P D vwCl w H) (q0 : Nat) (he : w[q0]? = some (a, .inr (3, fs))) (hv : fs[3]? = some v) (hd : decode cc pc = .ok (.getfield 25, 3)) (kk : W p l e R s m args below meth c H locs cells slots Q (F0 m (pc + 3) ls (v :: rest))) : W p l e R s m args below meth c H locs cells slots Q (F0 m pc ls (.ref a :: rest)) := r_get C hP q0 3 (ci := 3) (Cn := RX3) (T := TX3) (N := 7) rfl inTX3 (by decide) fl_X3_25 rfl he hv hd kk
theorem g_X3_31 (C : Cx p s m args meth c cc nL RX3 rt D k) (hP : va_P D vwCl w H) (q0 : Nat) (he : w[q0]? = some (a, .inr (3, fs))) (hv : fs[4]? = some v) (hd : decode cc pc = .ok (.getfield 31, 3)) (kk : W p l e R s m args below meth c H locs cells slots Q (F0 m (pc + 3) ls (v :: rest))) : W p l e R s m args below meth c H locs cells slots Q (F0 m pc ls (.ref a :: rest)) := r_get C hP q0 4 (ci := 3) (Cn := RX3) (T := TX3) (N := 7) rfl inTX3 (by decide) fl_X3_31 rfl he hv hd kk
theorem g_X3_35 (C : Cx p s m args meth c cc nL RX3 rt D k) (hP : va_P D vwCl w H) (q0 : Nat) (he : w[q0]? = some (a, .inr (3, fs))) (hv : fs[5]? = some v) (hd : decode cc pc = .ok (.getfield 35, 3)) (kk : W p l e R s m args below meth c H locs cells slots Q (F0 m (pc + 3) ls (v :: rest))) : W p l e R s m args below meth c H locs cells slots Q (F0 m pc ls (.ref a :: rest)) := r_get C hP q0 5 (ci := 3) (Cn := RX3) (T := TX3) (N := 7) rfl inTX3 (by decide) fl_X3_35 rfl he hv hd kk
theorem g_X3_57 (C : Cx p s m args meth c cc nL RX3 rt D k) (hP : va_P D vwCl w H) (q0 : Nat) (he : w[q0]? = some (a, .inr (2, fs))) (hv : fs[0]? = some v) (hd : decode cc pc = .ok (.getfield 57, 3)) (kk : W p l e R s m args below meth c H locs cells slots Q (F0 m (pc + 3) ls (v :: rest))) : W p l e R s m args below meth c H locs cells slots Q (F0 m pc ls (.ref a :: rest)) := r_get C hP q0 0 (ci := 2) (Cn := RX2) (T := TX2) (N := 10) rfl inTX2 (by decide) fl_X3_57 rfl he hv hd kk
theorem g_X3_60 (C : Cx p s m args meth c cc nL RX3 rt D k) (hP : va_P D vwCl w H) (q0 : Nat) (he : w[q0]? = some (a, .inr (2, fs))) (hv : fs[1]? = some v) (hd : decode cc pc = .ok (.getfield 60, 3)) (kk : W p l e R s m args below meth c H locs cells slots Q (F0 m (pc + 3) ls (v :: rest))) : W p l e R s m args below meth c H locs cells slots Q (F0 m pc ls (.ref a :: rest)) := r_get C hP q0 1 (ci := 2) (Cn := RX2) (T := TX2) (N := 10) rfl inTX2 (by decide) fl_X3_60 rfl he hv hd kk
theorem g_X3_66 (C : Cx p s m args meth c cc nL RX3 rt D k) (hP : va_P D vwCl w H) (q0 : Nat) (he : w[q0]? = some (a, .inr (2, fs))) (hv : fs[9]? = some v) (hd : decode cc pc = .ok (.getfield 66, 3)) (kk : W p l e R s m args below meth c H locs cells slots Q (F0 m (pc + 3) ls (v :: rest))) : W p l e R s m args below meth c H locs cells slots Q (F0 m pc ls (.ref a :: rest)) := r_get C hP q0 9 (ci := 2) (Cn := RX2) (T := TX2) (N := 10) rfl inTX2 (by decide) fl_X3_66 rfl he hv hd kk
theorem p_X3_66 {x : Int64} (C : Cx p s m args meth c cc nL RX3 rt D k) (hP : va_P D vwCl w H) (hD : va_D A w) (hS : va_S A H0 H locs) (q0 : Nat) (w1 : va_W) (he : w[q0]? = some (a, .inr (2, fs))) (hl : 9 < fs.length) (hw : w.set q0 (a, .inr (2, fs.set 9 (.long x))) = w1) (hd : decode cc pc = .ok (.putfield 66, 3)) (kk : ∀ (H1 : Heap) (locs1 : List Loc), va_P D vwCl w1 H1 → va_D A w1 → va_S A H0 H1 locs1 → W p l e R s m args below meth c H1 locs1 cells slots Q (F0 m (pc + 3) ls rest)) : W p l e R s m args below meth c H locs cells slots Q (F0 m pc ls (.long x :: .ref a :: rest)) := r_put C hP hD hS q0 9 w1 (ci := 2) (Cn := RX2) (T := TX2) (N := 10) (ty0 := tyX2) (ty := .long) rfl inTX2 tyX2_ok nmX2 (by decide) fl_X3_66 rfl rfl (by decide +kernel) he rfl rfl hl hw hd kk
theorem g_X3_87 (C : Cx p s m args meth c cc nL RX3 rt D k) (hP : va_P D vwCl w H) (q0 : Nat) (he : w[q0]? = some (a, .inr (2, fs))) (hv : fs[8]? = some v) (hd : decode cc pc = .ok (.getfield 87, 3)) (kk : W p l e R s m args below meth c H locs cells slots Q (F0 m (pc + 3) ls (v :: rest))) : W p l e R s m args below meth c H locs cells slots Q (F0 m pc ls (.ref a :: rest)) := r_get C hP q0 8 (ci := 2) (Cn := RX2) (T := TX2) (N := 10) rfl inTX2 (by decide) fl_X3_87 rfl he hv hd kk
theorem p_X3_87 {x : Int32} (C : Cx p s m args meth c cc nL RX3 rt D k) (hP : va_P D vwCl w H) (hD : va_D A w) (hS : va_S A H0 H locs) (q0 : Nat) (w1 : va_W) (he : w[q0]? = some (a, .inr (2, fs))) (hl : 8 < fs.length) (hw : w.set q0 (a, .inr (2, fs.set 8 (.int x))) = w1) (hd : decode cc pc = .ok (.putfield 87, 3)) (kk : ∀ (H1 : Heap) (locs1 : List Loc), va_P D vwCl w1 H1 → va_D A w1 → va_S A H0 H1 locs1 → W p l e R s m args below meth c H1 locs1 cells slots Q (F0 m (pc + 3) ls rest)) : W p l e R s m args below meth c H locs cells slots Q (F0 m pc ls (.int x :: .ref a :: rest)) := r_put C hP hD hS q0 8 w1 (ci := 2) (Cn := RX2) (T := TX2) (N := 10) (ty0 := tyX2) (ty := .int) rfl inTX2 tyX2_ok nmX2 (by decide) fl_X3_87 rfl rfl (by decide +kernel) he rfl rfl hl hw hd kk
theorem g_X3_94 (C : Cx p s m args meth c cc nL RX3 rt D k) (hP : va_P D vwCl w H) (q0 : Nat) (he : w[q0]? = some (a, .inr (2, fs))) (hv : fs[6]? = some v) (hd : decode cc pc = .ok (.getfield 94, 3)) (kk : W p l e R s m args below meth c H locs cells slots Q (F0 m (pc + 3) ls (v :: rest))) : W p l e R s m args below meth c H locs cells slots Q (F0 m pc ls (.ref a :: rest)) := r_get C hP q0 6 (ci := 2) (Cn := RX2) (T := TX2) (N := 10) rfl inTX2 (by decide) fl_X3_94 rfl he hv hd kk
theorem p_X3_94 {x : Int32} (C : Cx p s m args meth c cc nL RX3 rt D k) (hP : va_P D vwCl w H) (hD : va_D A w) (hS : va_S A H0 H locs) (q0 : Nat) (w1 : va_W) (he : w[q0]? = some (a, .inr (2, fs))) (hl : 6 < fs.length) (hw : w.set q0 (a, .inr (2, fs.set 6 (.int x))) = w1) (hd : decode cc pc = .ok (.putfield 94, 3)) (kk : ∀ (H1 : Heap) (locs1 : List Loc), va_P D vwCl w1 H1 → va_D A w1 → va_S A H0 H1 locs1 → W p l e R s m args below meth c H1 locs1 cells slots Q (F0 m (pc + 3) ls rest)) : W p l e R s m args below meth c H locs cells slots Q (F0 m pc ls (.int x :: .ref a :: rest)) := r_put C hP hD hS q0 6 w1 (ci := 2) (Cn := RX2) (T := TX2) (N := 10) (ty0 := tyX2) (ty := .int) rfl inTX2 tyX2_ok nmX2 (by decide) fl_X3_94 rfl rfl (by decide +kernel) he rfl rfl hl hw hd kk
theorem g_X3_104 (C : Cx p s m args meth c cc nL RX3 rt D k) (hP : va_P D vwCl w H) (q0 : Nat) (he : w[q0]? = some (a, .inr (2, fs))) (hv : fs[2]? = some v) (hd : decode cc pc = .ok (.getfield 104, 3)) (kk : W p l e R s m args below meth c H locs cells slots Q (F0 m (pc + 3) ls (v :: rest))) : W p l e R s m args below meth c H locs cells slots Q (F0 m pc ls (.ref a :: rest)) := r_get C hP q0 2 (ci := 2) (Cn := RX2) (T := TX2) (N := 10) rfl inTX2 (by decide) fl_X3_104 rfl he hv hd kk
theorem g_X3_107 (C : Cx p s m args meth c cc nL RX3 rt D k) (hP : va_P D vwCl w H) (q0 : Nat) (he : w[q0]? = some (a, .inr (2, fs))) (hv : fs[3]? = some v) (hd : decode cc pc = .ok (.getfield 107, 3)) (kk : W p l e R s m args below meth c H locs cells slots Q (F0 m (pc + 3) ls (v :: rest))) : W p l e R s m args below meth c H locs cells slots Q (F0 m pc ls (.ref a :: rest)) := r_get C hP q0 3 (ci := 2) (Cn := RX2) (T := TX2) (N := 10) rfl inTX2 (by decide) fl_X3_107 rfl he hv hd kk
theorem g_X3_110 (C : Cx p s m args meth c cc nL RX3 rt D k) (hP : va_P D vwCl w H) (q0 : Nat) (he : w[q0]? = some (a, .inr (2, fs))) (hv : fs[4]? = some v) (hd : decode cc pc = .ok (.getfield 110, 3)) (kk : W p l e R s m args below meth c H locs cells slots Q (F0 m (pc + 3) ls (v :: rest))) : W p l e R s m args below meth c H locs cells slots Q (F0 m pc ls (.ref a :: rest)) := r_get C hP q0 4 (ci := 2) (Cn := RX2) (T := TX2) (N := 10) rfl inTX2 (by decide) fl_X3_110 rfl he hv hd kk
theorem g_X3_113 (C : Cx p s m args meth c cc nL RX3 rt D k) (hP : va_P D vwCl w H) (q0 : Nat) (he : w[q0]? = some (a, .inr (2, fs))) (hv : fs[5]? = some v) (hd : decode cc pc = .ok (.getfield 113, 3)) (kk : W p l e R s m args below meth c H locs cells slots Q (F0 m (pc + 3) ls (v :: rest))) : W p l e R s m args below meth c H locs cells slots Q (F0 m pc ls (.ref a :: rest)) := r_get C hP q0 5 (ci := 2) (Cn := RX2) (T := TX2) (N := 10) rfl inTX2 (by decide) fl_X3_113 rfl he hv hd kk
theorem g_X3_140 (C : Cx p s m args meth c cc nL RX3 rt D k) (hP : va_P D vwCl w H) (q0 : Nat) (he : w[q0]? = some (a, .inr (2, fs))) (hv : fs[7]? = some v) (hd : decode cc pc = .ok (.getfield 140, 3)) (kk : W p l e R s m args below meth c H locs cells slots Q (F0 m (pc + 3) ls (v :: rest))) : W p l e R s m args below meth c H locs cells slots Q (F0 m pc ls (.ref a :: rest)) := r_get C hP q0 7 (ci := 2) (Cn := RX2) (T := TX2) (N := 10) rfl inTX2 (by decide) fl_X3_140 rfl he hv hd kk
theorem p_X3_140 {x : Int32} (C : Cx p s m args meth c cc nL RX3 rt D k) (hP : va_P D vwCl w H) (hD : va_D A w) (hS : va_S A H0 H locs) (q0 : Nat) (w1 : va_W) (he : w[q0]? = some (a, .inr (2, fs))) (hl : 7 < fs.length) (hw : w.set q0 (a, .inr (2, fs.set 7 (.int x))) = w1) (hd : decode cc pc = .ok (.putfield 140, 3)) (kk : ∀ (H1 : Heap) (locs1 : List Loc), va_P D vwCl w1 H1 → va_D A w1 → va_S A H0 H1 locs1 → W p l e R s m args below meth c H1 locs1 cells slots Q (F0 m (pc + 3) ls rest)) : W p l e R s m args below meth c H locs cells slots Q (F0 m pc ls (.int x :: .ref a :: rest)) := r_put C hP hD hS q0 7 w1 (ci := 2) (Cn := RX2) (T := TX2) (N := 10) (ty0 := tyX2) (ty := .int) rfl inTX2 tyX2_ok nmX2 (by decide) fl_X3_140 rfl rfl (by decide +kernel) he rfl rfl hl hw hd kk
theorem g_X3_179 (C : Cx p s m args meth c cc nL RX3 rt D k) (hP : va_P D vwCl w H) (q0 : Nat) (he : w[q0]? = some (a, .inr (1, fs))) (hv : fs[1]? = some v) (hd : decode cc pc = .ok (.getfield 179, 3)) (kk : W p l e R s m args below meth c H locs cells slots Q (F0 m (pc + 3) ls (v :: rest))) : W p l e R s m args below meth c H locs cells slots Q (F0 m pc ls (.ref a :: rest)) := r_get C hP q0 1 (ci := 1) (Cn := RX1) (T := TX1) (N := 6) rfl inTX1 (by decide) fl_X3_179 rfl he hv hd kk
theorem p_X3_179 {x : Int32} (C : Cx p s m args meth c cc nL RX3 rt D k) (hP : va_P D vwCl w H) (hD : va_D A w) (hS : va_S A H0 H locs) (q0 : Nat) (w1 : va_W) (he : w[q0]? = some (a, .inr (1, fs))) (hl : 1 < fs.length) (hw : w.set q0 (a, .inr (1, fs.set 1 (.int x))) = w1) (hd : decode cc pc = .ok (.putfield 179, 3)) (kk : ∀ (H1 : Heap) (locs1 : List Loc), va_P D vwCl w1 H1 → va_D A w1 → va_S A H0 H1 locs1 → W p l e R s m args below meth c H1 locs1 cells slots Q (F0 m (pc + 3) ls rest)) : W p l e R s m args below meth c H locs cells slots Q (F0 m pc ls (.int x :: .ref a :: rest)) := r_put C hP hD hS q0 1 w1 (ci := 1) (Cn := RX1) (T := TX1) (N := 6) (ty0 := tyX1) (ty := .int) rfl inTX1 tyX1_ok nmX1 (by decide) fl_X3_179 rfl rfl (by decide +kernel) he rfl rfl hl hw hd kk
theorem g_X3_182 (C : Cx p s m args meth c cc nL RX3 rt D k) (hP : va_P D vwCl w H) (q0 : Nat) (he : w[q0]? = some (a, .inr (1, fs))) (hv : fs[0]? = some v) (hd : decode cc pc = .ok (.getfield 182, 3)) (kk : W p l e R s m args below meth c H locs cells slots Q (F0 m (pc + 3) ls (v :: rest))) : W p l e R s m args below meth c H locs cells slots Q (F0 m pc ls (.ref a :: rest)) := r_get C hP q0 0 (ci := 1) (Cn := RX1) (T := TX1) (N := 6) rfl inTX1 (by decide) fl_X3_182 rfl he hv hd kk
theorem g_X3_196 (C : Cx p s m args meth c cc nL RX3 rt D k) (hP : va_P D vwCl w H) (q0 : Nat) (he : w[q0]? = some (a, .inr (0, fs))) (hv : fs[2]? = some v) (hd : decode cc pc = .ok (.getfield 196, 3)) (kk : W p l e R s m args below meth c H locs cells slots Q (F0 m (pc + 3) ls (v :: rest))) : W p l e R s m args below meth c H locs cells slots Q (F0 m pc ls (.ref a :: rest)) := r_get C hP q0 2 (ci := 0) (Cn := RX0) (T := TX0) (N := 3) rfl inTX0 (by decide) fl_X3_196 rfl he hv hd kk
theorem p_X3_196 {x : Int32} (C : Cx p s m args meth c cc nL RX3 rt D k) (hP : va_P D vwCl w H) (hD : va_D A w) (hS : va_S A H0 H locs) (q0 : Nat) (w1 : va_W) (he : w[q0]? = some (a, .inr (0, fs))) (hl : 2 < fs.length) (hw : w.set q0 (a, .inr (0, fs.set 2 (.int x))) = w1) (hd : decode cc pc = .ok (.putfield 196, 3)) (kk : ∀ (H1 : Heap) (locs1 : List Loc), va_P D vwCl w1 H1 → va_D A w1 → va_S A H0 H1 locs1 → W p l e R s m args below meth c H1 locs1 cells slots Q (F0 m (pc + 3) ls rest)) : W p l e R s m args below meth c H locs cells slots Q (F0 m pc ls (.int x :: .ref a :: rest)) := r_put C hP hD hS q0 2 w1 (ci := 0) (Cn := RX0) (T := TX0) (N := 3) (ty0 := tyX0) (ty := .int) rfl inTX0 tyX0_ok nmX0 (by decide) fl_X3_196 rfl rfl (by decide +kernel) he rfl rfl hl hw hd kk
theorem g_X3_208 (C : Cx p s m args meth c cc nL RX3 rt D k) (hP : va_P D vwCl w H) (q0 : Nat) (he : w[q0]? = some (a, .inr (0, fs))) (hv : fs[1]? = some v) (hd : decode cc pc = .ok (.getfield 208, 3)) (kk : W p l e R s m args below meth c H locs cells slots Q (F0 m (pc + 3) ls (v :: rest))) : W p l e R s m args below meth c H locs cells slots Q (F0 m pc ls (.ref a :: rest)) := r_get C hP q0 1 (ci := 0) (Cn := RX0) (T := TX0) (N := 3) rfl inTX0 (by decide) fl_X3_208 rfl he hv hd kk
theorem p_X3_208 {x : Int32} (C : Cx p s m args meth c cc nL RX3 rt D k) (hP : va_P D vwCl w H) (hD : va_D A w) (hS : va_S A H0 H locs) (q0 : Nat) (w1 : va_W) (he : w[q0]? = some (a, .inr (0, fs))) (hl : 1 < fs.length) (hw : w.set q0 (a, .inr (0, fs.set 1 (.int x))) = w1) (hd : decode cc pc = .ok (.putfield 208, 3)) (kk : ∀ (H1 : Heap) (locs1 : List Loc), va_P D vwCl w1 H1 → va_D A w1 → va_S A H0 H1 locs1 → W p l e R s m args below meth c H1 locs1 cells slots Q (F0 m (pc + 3) ls rest)) : W p l e R s m args below meth c H locs cells slots Q (F0 m pc ls (.int x :: .ref a :: rest)) := r_put C hP hD hS q0 1 w1 (ci := 0) (Cn := RX0) (T := TX0) (N := 3) (ty0 := tyX0) (ty := .int) rfl inTX0 tyX0_ok nmX0 (by decide) fl_X3_208 rfl rfl (by decide +kernel) he rfl rfl hl hw hd kk
theorem g_X3_214 (C : Cx p s m args meth c cc nL RX3 rt D k) (hP : va_P D vwCl w H) (q0 : Nat) (he : w[q0]? = some (a, .inr (0, fs))) (hv : fs[0]? = some v) (hd : decode cc pc = .ok (.getfield 214, 3)) (kk : W p l e R s m args below meth c H locs cells slots Q (F0 m (pc + 3) ls (v :: rest))) : W p l e R s m args below meth c H locs cells slots Q (F0 m pc ls (.ref a :: rest)) := r_get C hP q0 0 (ci := 0) (Cn := RX0) (T := TX0) (N := 3) rfl inTX0 (by decide) fl_X3_214 rfl he hv hd kk
theorem g_X3_230 (C : Cx p s m args meth c cc nL RX3 rt D k) (hP : va_P D vwCl w H) (q0 : Nat) (he : w[q0]? = some (a, .inr (3, fs))) (hv : fs[6]? = some v) (hd : decode cc pc = .ok (.getfield 230, 3)) (kk : W p l e R s m args below meth c H locs cells slots Q (F0 m (pc + 3) ls (v :: rest))) : W p l e R s m args below meth c H locs cells slots Q (F0 m pc ls (.ref a :: rest)) := r_get C hP q0 6 (ci := 3) (Cn := RX3) (T := TX3) (N := 7) rfl inTX3 (by decide) fl_X3_230 rfl he hv hd kk
theorem p_X3_230 (C : Cx p s m args meth c cc nL RX3 rt D k) (hP : va_P D vwCl w H) (hD : va_D A w) (hS : va_S A H0 H locs) (q0 : Nat) (w1 : va_W) (he : w[q0]? = some (a, .inr (3, fs))) (hn : narrow .boolean v = v) (hf : fits .boolean v = true) (hl : 6 < fs.length) (hw : w.set q0 (a, .inr (3, fs.set 6 (v))) = w1) (hd : decode cc pc = .ok (.putfield 230, 3)) (kk : ∀ (H1 : Heap) (locs1 : List Loc), va_P D vwCl w1 H1 → va_D A w1 → va_S A H0 H1 locs1 → W p l e R s m args below meth c H1 locs1 cells slots Q (F0 m (pc + 3) ls rest)) : W p l e R s m args below meth c H locs cells slots Q (F0 m pc ls (v :: .ref a :: rest)) := r_put C hP hD hS q0 6 w1 (ci := 3) (Cn := RX3) (T := TX3) (N := 7) (ty0 := tyX3) (ty := .boolean) rfl inTX3 tyX3_ok nmX3 (by decide) fl_X3_230 rfl rfl (by decide +kernel) he hn hf hl hw hd kk
theorem g_X0_9 (C : Cx p s m args meth c cc nL RX0 rt D k) (hP : va_P D vwCl w H) (q0 : Nat) (he : w[q0]? = some (a, .inr (0, fs))) (hv : fs[0]? = some v) (hd : decode cc pc = .ok (.getfield 9, 3)) (kk : W p l e R s m args below meth c H locs cells slots Q (F0 m (pc + 3) ls (v :: rest))) : W p l e R s m args below meth c H locs cells slots Q (F0 m pc ls (.ref a :: rest)) := r_get C hP q0 0 (ci := 0) (Cn := RX0) (T := TX0) (N := 3) rfl inTX0 (by decide) fl_X0_9 rfl he hv hd kk
theorem g_X0_15 (C : Cx p s m args meth c cc nL RX0 rt D k) (hP : va_P D vwCl w H) (q0 : Nat) (he : w[q0]? = some (a, .inr (0, fs))) (hv : fs[1]? = some v) (hd : decode cc pc = .ok (.getfield 15, 3)) (kk : W p l e R s m args below meth c H locs cells slots Q (F0 m (pc + 3) ls (v :: rest))) : W p l e R s m args below meth c H locs cells slots Q (F0 m pc ls (.ref a :: rest)) := r_get C hP q0 1 (ci := 0) (Cn := RX0) (T := TX0) (N := 3) rfl inTX0 (by decide) fl_X0_15 rfl he hv hd kk
theorem p_X0_15 {x : Int32} (C : Cx p s m args meth c cc nL RX0 rt D k) (hP : va_P D vwCl w H) (hD : va_D A w) (hS : va_S A H0 H locs) (q0 : Nat) (w1 : va_W) (he : w[q0]? = some (a, .inr (0, fs))) (hl : 1 < fs.length) (hw : w.set q0 (a, .inr (0, fs.set 1 (.int x))) = w1) (hd : decode cc pc = .ok (.putfield 15, 3)) (kk : ∀ (H1 : Heap) (locs1 : List Loc), va_P D vwCl w1 H1 → va_D A w1 → va_S A H0 H1 locs1 → W p l e R s m args below meth c H1 locs1 cells slots Q (F0 m (pc + 3) ls rest)) : W p l e R s m args below meth c H locs cells slots Q (F0 m pc ls (.int x :: .ref a :: rest)) := r_put C hP hD hS q0 1 w1 (ci := 0) (Cn := RX0) (T := TX0) (N := 3) (ty0 := tyX0) (ty := .int) rfl inTX0 tyX0_ok nmX0 (by decide) fl_X0_15 rfl rfl (by decide +kernel) he rfl rfl hl hw hd kk
theorem g_X0_19 (C : Cx p s m args meth c cc nL RX0 rt D k) (hP : va_P D vwCl w H) (q0 : Nat) (he : w[q0]? = some (a, .inr (0, fs))) (hv : fs[2]? = some v) (hd : decode cc pc = .ok (.getfield 19, 3)) (kk : W p l e R s m args below meth c H locs cells slots Q (F0 m (pc + 3) ls (v :: rest))) : W p l e R s m args below meth c H locs cells slots Q (F0 m pc ls (.ref a :: rest)) := r_get C hP q0 2 (ci := 0) (Cn := RX0) (T := TX0) (N := 3) rfl inTX0 (by decide) fl_X0_19 rfl he hv hd kk
theorem p_X0_19 {x : Int32} (C : Cx p s m args meth c cc nL RX0 rt D k) (hP : va_P D vwCl w H) (hD : va_D A w) (hS : va_S A H0 H locs) (q0 : Nat) (w1 : va_W) (he : w[q0]? = some (a, .inr (0, fs))) (hl : 2 < fs.length) (hw : w.set q0 (a, .inr (0, fs.set 2 (.int x))) = w1) (hd : decode cc pc = .ok (.putfield 19, 3)) (kk : ∀ (H1 : Heap) (locs1 : List Loc), va_P D vwCl w1 H1 → va_D A w1 → va_S A H0 H1 locs1 → W p l e R s m args below meth c H1 locs1 cells slots Q (F0 m (pc + 3) ls rest)) : W p l e R s m args below meth c H locs cells slots Q (F0 m pc ls (.int x :: .ref a :: rest)) := r_put C hP hD hS q0 2 w1 (ci := 0) (Cn := RX0) (T := TX0) (N := 3) (ty0 := tyX0) (ty := .int) rfl inTX0 tyX0_ok nmX0 (by decide) fl_X0_19 rfl rfl (by decide +kernel) he rfl rfl hl hw hd kk
theorem g_X1_9 (C : Cx p s m args meth c cc nL RX1 rt D k) (hP : va_P D vwCl w H) (q0 : Nat) (he : w[q0]? = some (a, .inr (1, fs))) (hv : fs[0]? = some v) (hd : decode cc pc = .ok (.getfield 9, 3)) (kk : W p l e R s m args below meth c H locs cells slots Q (F0 m (pc + 3) ls (v :: rest))) : W p l e R s m args below meth c H locs cells slots Q (F0 m pc ls (.ref a :: rest)) := r_get C hP q0 0 (ci := 1) (Cn := RX1) (T := TX1) (N := 6) rfl inTX1 (by decide) fl_X1_9 rfl he hv hd kk
theorem g_X1_15 (C : Cx p s m args meth c cc nL RX1 rt D k) (hP : va_P D vwCl w H) (q0 : Nat) (he : w[q0]? = some (a, .inr (1, fs))) (hv : fs[4]? = some v) (hd : decode cc pc = .ok (.getfield 15, 3)) (kk : W p l e R s m args below meth c H locs cells slots Q (F0 m (pc + 3) ls (v :: rest))) : W p l e R s m args below meth c H locs cells slots Q (F0 m pc ls (.ref a :: rest)) := r_get C hP q0 4 (ci := 1) (Cn := RX1) (T := TX1) (N := 6) rfl inTX1 (by decide) fl_X1_15 rfl he hv hd kk
theorem p_X1_15 {x : Int32} (C : Cx p s m args meth c cc nL RX1 rt D k) (hP : va_P D vwCl w H) (hD : va_D A w) (hS : va_S A H0 H locs) (q0 : Nat) (w1 : va_W) (he : w[q0]? = some (a, .inr (1, fs))) (hl : 4 < fs.length) (hw : w.set q0 (a, .inr (1, fs.set 4 (.int x))) = w1) (hd : decode cc pc = .ok (.putfield 15, 3)) (kk : ∀ (H1 : Heap) (locs1 : List Loc), va_P D vwCl w1 H1 → va_D A w1 → va_S A H0 H1 locs1 → W p l e R s m args below meth c H1 locs1 cells slots Q (F0 m (pc + 3) ls rest)) : W p l e R s m args below meth c H locs cells slots Q (F0 m pc ls (.int x :: .ref a :: rest)) := r_put C hP hD hS q0 4 w1 (ci := 1) (Cn := RX1) (T := TX1) (N := 6) (ty0 := tyX1) (ty := .int) rfl inTX1 tyX1_ok nmX1 (by decide) fl_X1_15 rfl rfl (by decide +kernel) he rfl rfl hl hw hd kk
theorem g_X1_26 (C : Cx p s m args meth c cc nL RX1 rt D k) (hP : va_P D vwCl w H) (q0 : Nat) (he : w[q0]? = some (a, .inr (1, fs))) (hv : fs[3]? = some v) (hd : decode cc pc = .ok (.getfield 26, 3)) (kk : W p l e R s m args below meth c H locs cells slots Q (F0 m (pc + 3) ls (v :: rest))) : W p l e R s m args below meth c H locs cells slots Q (F0 m pc ls (.ref a :: rest)) := r_get C hP q0 3 (ci := 1) (Cn := RX1) (T := TX1) (N := 6) rfl inTX1 (by decide) fl_X1_26 rfl he hv hd kk
theorem p_X1_26 {x : Int32} (C : Cx p s m args meth c cc nL RX1 rt D k) (hP : va_P D vwCl w H) (hD : va_D A w) (hS : va_S A H0 H locs) (q0 : Nat) (w1 : va_W) (he : w[q0]? = some (a, .inr (1, fs))) (hl : 3 < fs.length) (hw : w.set q0 (a, .inr (1, fs.set 3 (.int x))) = w1) (hd : decode cc pc = .ok (.putfield 26, 3)) (kk : ∀ (H1 : Heap) (locs1 : List Loc), va_P D vwCl w1 H1 → va_D A w1 → va_S A H0 H1 locs1 → W p l e R s m args below meth c H1 locs1 cells slots Q (F0 m (pc + 3) ls rest)) : W p l e R s m args below meth c H locs cells slots Q (F0 m pc ls (.int x :: .ref a :: rest)) := r_put C hP hD hS q0 3 w1 (ci := 1) (Cn := RX1) (T := TX1) (N := 6) (ty0 := tyX1) (ty := .int) rfl inTX1 tyX1_ok nmX1 (by decide) fl_X1_26 rfl rfl (by decide +kernel) he rfl rfl hl hw hd kk
theorem g_X1_29 (C : Cx p s m args meth c cc nL RX1 rt D k) (hP : va_P D vwCl w H) (q0 : Nat) (he : w[q0]? = some (a, .inr (1, fs))) (hv : fs[2]? = some v) (hd : decode cc pc = .ok (.getfield 29, 3)) (kk : W p l e R s m args below meth c H locs cells slots Q (F0 m (pc + 3) ls (v :: rest))) : W p l e R s m args below meth c H locs cells slots Q (F0 m pc ls (.ref a :: rest)) := r_get C hP q0 2 (ci := 1) (Cn := RX1) (T := TX1) (N := 6) rfl inTX1 (by decide) fl_X1_29 rfl he hv hd kk
theorem p_X1_29 {x : Int32} (C : Cx p s m args meth c cc nL RX1 rt D k) (hP : va_P D vwCl w H) (hD : va_D A w) (hS : va_S A H0 H locs) (q0 : Nat) (w1 : va_W) (he : w[q0]? = some (a, .inr (1, fs))) (hl : 2 < fs.length) (hw : w.set q0 (a, .inr (1, fs.set 2 (.int x))) = w1) (hd : decode cc pc = .ok (.putfield 29, 3)) (kk : ∀ (H1 : Heap) (locs1 : List Loc), va_P D vwCl w1 H1 → va_D A w1 → va_S A H0 H1 locs1 → W p l e R s m args below meth c H1 locs1 cells slots Q (F0 m (pc + 3) ls rest)) : W p l e R s m args below meth c H locs cells slots Q (F0 m pc ls (.int x :: .ref a :: rest)) := r_put C hP hD hS q0 2 w1 (ci := 1) (Cn := RX1) (T := TX1) (N := 6) (ty0 := tyX1) (ty := .int) rfl inTX1 tyX1_ok nmX1 (by decide) fl_X1_29 rfl rfl (by decide +kernel) he rfl rfl hl hw hd kk
theorem g_X1_56 (C : Cx p s m args meth c cc nL RX1 rt D k) (hP : va_P D vwCl w H) (q0 : Nat) (he : w[q0]? = some (a, .inr (2, fs))) (hv : fs[6]? = some v) (hd : decode cc pc = .ok (.getfield 56, 3)) (kk : W p l e R s m args below meth c H locs cells slots Q (F0 m (pc + 3) ls (v :: rest))) : W p l e R s m args below meth c H locs cells slots Q (F0 m pc ls (.ref a :: rest)) := r_get C hP q0 6 (ci := 2) (Cn := RX2) (T := TX2) (N := 10) rfl inTX2 (by decide) fl_X1_56 rfl he hv hd kk
theorem p_X1_56 {x : Int32} (C : Cx p s m args meth c cc nL RX1 rt D k) (hP : va_P D vwCl w H) (hD : va_D A w) (hS : va_S A H0 H locs) (q0 : Nat) (w1 : va_W) (he : w[q0]? = some (a, .inr (2, fs))) (hl : 6 < fs.length) (hw : w.set q0 (a, .inr (2, fs.set 6 (.int x))) = w1) (hd : decode cc pc = .ok (.putfield 56, 3)) (kk : ∀ (H1 : Heap) (locs1 : List Loc), va_P D vwCl w1 H1 → va_D A w1 → va_S A H0 H1 locs1 → W p l e R s m args below meth c H1 locs1 cells slots Q (F0 m (pc + 3) ls rest)) : W p l e R s m args below meth c H locs cells slots Q (F0 m pc ls (.int x :: .ref a :: rest)) := r_put C hP hD hS q0 6 w1 (ci := 2) (Cn := RX2) (T := TX2) (N := 10) (ty0 := tyX2) (ty := .int) rfl inTX2 tyX2_ok nmX2 (by decide) fl_X1_56 rfl rfl (by decide +kernel) he rfl rfl hl hw hd kk
theorem g_X1_67 (C : Cx p s m args meth c cc nL RX1 rt D k) (hP : va_P D vwCl w H) (q0 : Nat) (he : w[q0]? = some (a, .inr (1, fs))) (hv : fs[5]? = some v) (hd : decode cc pc = .ok (.getfield 67, 3)) (kk : W p l e R s m args below meth c H locs cells slots Q (F0 m (pc + 3) ls (v :: rest))) : W p l e R s m args below meth c H locs cells slots Q (F0 m pc ls (.ref a :: rest)) := r_get C hP q0 5 (ci := 1) (Cn := RX1) (T := TX1) (N := 6) rfl inTX1 (by decide) fl_X1_67 rfl he hv hd kk
theorem p_X1_67 {x : Int32} (C : Cx p s m args meth c cc nL RX1 rt D k) (hP : va_P D vwCl w H) (hD : va_D A w) (hS : va_S A H0 H locs) (q0 : Nat) (w1 : va_W) (he : w[q0]? = some (a, .inr (1, fs))) (hl : 5 < fs.length) (hw : w.set q0 (a, .inr (1, fs.set 5 (.int x))) = w1) (hd : decode cc pc = .ok (.putfield 67, 3)) (kk : ∀ (H1 : Heap) (locs1 : List Loc), va_P D vwCl w1 H1 → va_D A w1 → va_S A H0 H1 locs1 → W p l e R s m args below meth c H1 locs1 cells slots Q (F0 m (pc + 3) ls rest)) : W p l e R s m args below meth c H locs cells slots Q (F0 m pc ls (.int x :: .ref a :: rest)) := r_put C hP hD hS q0 5 w1 (ci := 1) (Cn := RX1) (T := TX1) (N := 6) (ty0 := tyX1) (ty := .int) rfl inTX1 tyX1_ok nmX1 (by decide) fl_X1_67 rfl rfl (by decide +kernel) he rfl rfl hl hw hd kk
theorem g_X1_84 (C : Cx p s m args meth c cc nL RX1 rt D k) (hP : va_P D vwCl w H) (q0 : Nat) (he : w[q0]? = some (a, .inr (2, fs))) (hv : fs[8]? = some v) (hd : decode cc pc = .ok (.getfield 84, 3)) (kk : W p l e R s m args below meth c H locs cells slots Q (F0 m (pc + 3) ls (v :: rest))) : W p l e R s m args below meth c H locs cells slots Q (F0 m pc ls (.ref a :: rest)) := r_get C hP q0 8 (ci := 2) (Cn := RX2) (T := TX2) (N := 10) rfl inTX2 (by decide) fl_X1_84 rfl he hv hd kk
theorem p_X1_84 {x : Int32} (C : Cx p s m args meth c cc nL RX1 rt D k) (hP : va_P D vwCl w H) (hD : va_D A w) (hS : va_S A H0 H locs) (q0 : Nat) (w1 : va_W) (he : w[q0]? = some (a, .inr (2, fs))) (hl : 8 < fs.length) (hw : w.set q0 (a, .inr (2, fs.set 8 (.int x))) = w1) (hd : decode cc pc = .ok (.putfield 84, 3)) (kk : ∀ (H1 : Heap) (locs1 : List Loc), va_P D vwCl w1 H1 → va_D A w1 → va_S A H0 H1 locs1 → W p l e R s m args below meth c H1 locs1 cells slots Q (F0 m (pc + 3) ls rest)) : W p l e R s m args below meth c H locs cells slots Q (F0 m pc ls (.int x :: .ref a :: rest)) := r_put C hP hD hS q0 8 w1 (ci := 2) (Cn := RX2) (T := TX2) (N := 10) (ty0 := tyX2) (ty := .int) rfl inTX2 tyX2_ok nmX2 (by decide) fl_X1_84 rfl rfl (by decide +kernel) he rfl rfl hl hw hd kk
theorem g_X1_126 (C : Cx p s m args meth c cc nL RX1 rt D k) (hP : va_P D vwCl w H) (q0 : Nat) (he : w[q0]? = some (a, .inr (1, fs))) (hv : fs[1]? = some v) (hd : decode cc pc = .ok (.getfield 126, 3)) (kk : W p l e R s m args below meth c H locs cells slots Q (F0 m (pc + 3) ls (v :: rest))) : W p l e R s m args below meth c H locs cells slots Q (F0 m pc ls (.ref a :: rest)) := r_get C hP q0 1 (ci := 1) (Cn := RX1) (T := TX1) (N := 6) rfl inTX1 (by decide) fl_X1_126 rfl he hv hd kk
theorem p_X1_126 {x : Int32} (C : Cx p s m args meth c cc nL RX1 rt D k) (hP : va_P D vwCl w H) (hD : va_D A w) (hS : va_S A H0 H locs) (q0 : Nat) (w1 : va_W) (he : w[q0]? = some (a, .inr (1, fs))) (hl : 1 < fs.length) (hw : w.set q0 (a, .inr (1, fs.set 1 (.int x))) = w1) (hd : decode cc pc = .ok (.putfield 126, 3)) (kk : ∀ (H1 : Heap) (locs1 : List Loc), va_P D vwCl w1 H1 → va_D A w1 → va_S A H0 H1 locs1 → W p l e R s m args below meth c H1 locs1 cells slots Q (F0 m (pc + 3) ls rest)) : W p l e R s m args below meth c H locs cells slots Q (F0 m pc ls (.int x :: .ref a :: rest)) := r_put C hP hD hS q0 1 w1 (ci := 1) (Cn := RX1) (T := TX1) (N := 6) (ty0 := tyX1) (ty := .int) rfl inTX1 tyX1_ok nmX1 (by decide) fl_X1_126 rfl rfl (by decide +kernel) he rfl rfl hl hw hd kk
theorem g_X2_9 (C : Cx p s m args meth c cc nL RX2 rt D k) (hP : va_P D vwCl w H) (q0 : Nat) (he : w[q0]? = some (a, .inr (2, fs))) (hv : fs[0]? = some v) (hd : decode cc pc = .ok (.getfield 9, 3)) (kk : W p l e R s m args below meth c H locs cells slots Q (F0 m (pc + 3) ls (v :: rest))) : W p l e R s m args below meth c H locs cells slots Q (F0 m pc ls (.ref a :: rest)) := r_get C hP q0 0 (ci := 2) (Cn := RX2) (T := TX2) (N := 10) rfl inTX2 (by decide) fl_X2_9 rfl he hv hd kk
theorem g_X2_15 (C : Cx p s m args meth c cc nL RX2 rt D k) (hP : va_P D vwCl w H) (q0 : Nat) (he : w[q0]? = some (a, .inr (2, fs))) (hv : fs[1]? = some v) (hd : decode cc pc = .ok (.getfield 15, 3)) (kk : W p l e R s m args below meth c H locs cells slots Q (F0 m (pc + 3) ls (v :: rest))) : W p l e R s m args below meth c H locs cells slots Q (F0 m pc ls (.ref a :: rest)) := r_get C hP q0 1 (ci := 2) (Cn := RX2) (T := TX2) (N := 10) rfl inTX2 (by decide) fl_X2_15 rfl he hv hd kk
theorem g_X2_18 (C : Cx p s m args meth c cc nL RX2 rt D k) (hP : va_P D vwCl w H) (q0 : Nat) (he : w[q0]? = some (a, .inr (2, fs))) (hv : fs[2]? = some v) (hd : decode cc pc = .ok (.getfield 18, 3)) (kk : W p l e R s m args below meth c H locs cells slots Q (F0 m (pc + 3) ls (v :: rest))) : W p l e R s m args below meth c H locs cells slots Q (F0 m pc ls (.ref a :: rest)) := r_get C hP q0 2 (ci := 2) (Cn := RX2) (T := TX2) (N := 10) rfl inTX2 (by decide) fl_X2_18 rfl he hv hd kk
theorem g_X2_21 (C : Cx p s m args meth c cc nL RX2 rt D k) (hP : va_P D vwCl w H) (q0 : Nat) (he : w[q0]? = some (a, .inr (2, fs))) (hv : fs[3]? = some v) (hd : decode cc pc = .ok (.getfield 21, 3)) (kk : W p l e R s m args below meth c H locs cells slots Q (F0 m (pc + 3) ls (v :: rest))) : W p l e R s m args below meth c H locs cells slots Q (F0 m pc ls (.ref a :: rest)) := r_get C hP q0 3 (ci := 2) (Cn := RX2) (T := TX2) (N := 10) rfl inTX2 (by decide) fl_X2_21 rfl he hv hd kk
theorem g_X2_24 (C : Cx p s m args meth c cc nL RX2 rt D k) (hP : va_P D vwCl w H) (q0 : Nat) (he : w[q0]? = some (a, .inr (2, fs))) (hv : fs[4]? = some v) (hd : decode cc pc = .ok (.getfield 24, 3)) (kk : W p l e R s m args below meth c H locs cells slots Q (F0 m (pc + 3) ls (v :: rest))) : W p l e R s m args below meth c H locs cells slots Q (F0 m pc ls (.ref a :: rest)) := r_get C hP q0 4 (ci := 2) (Cn := RX2) (T := TX2) (N := 10) rfl inTX2 (by decide) fl_X2_24 rfl he hv hd kk
theorem g_X2_27 (C : Cx p s m args meth c cc nL RX2 rt D k) (hP : va_P D vwCl w H) (q0 : Nat) (he : w[q0]? = some (a, .inr (2, fs))) (hv : fs[5]? = some v) (hd : decode cc pc = .ok (.getfield 27, 3)) (kk : W p l e R s m args below meth c H locs cells slots Q (F0 m (pc + 3) ls (v :: rest))) : W p l e R s m args below meth c H locs cells slots Q (F0 m pc ls (.ref a :: rest)) := r_get C hP q0 5 (ci := 2) (Cn := RX2) (T := TX2) (N := 10) rfl inTX2 (by decide) fl_X2_27 rfl he hv hd kk
theorem g_X2_30 (C : Cx p s m args meth c cc nL RX2 rt D k) (hP : va_P D vwCl w H) (q0 : Nat) (he : w[q0]? = some (a, .inr (2, fs))) (hv : fs[8]? = some v) (hd : decode cc pc = .ok (.getfield 30, 3)) (kk : W p l e R s m args below meth c H locs cells slots Q (F0 m (pc + 3) ls (v :: rest))) : W p l e R s m args below meth c H locs cells slots Q (F0 m pc ls (.ref a :: rest)) := r_get C hP q0 8 (ci := 2) (Cn := RX2) (T := TX2) (N := 10) rfl inTX2 (by decide) fl_X2_30 rfl he hv hd kk
theorem p_X2_30 {x : Int32} (C : Cx p s m args meth c cc nL RX2 rt D k) (hP : va_P D vwCl w H) (hD : va_D A w) (hS : va_S A H0 H locs) (q0 : Nat) (w1 : va_W) (he : w[q0]? = some (a, .inr (2, fs))) (hl : 8 < fs.length) (hw : w.set q0 (a, .inr (2, fs.set 8 (.int x))) = w1) (hd : decode cc pc = .ok (.putfield 30, 3)) (kk : ∀ (H1 : Heap) (locs1 : List Loc), va_P D vwCl w1 H1 → va_D A w1 → va_S A H0 H1 locs1 → W p l e R s m args below meth c H1 locs1 cells slots Q (F0 m (pc + 3) ls rest)) : W p l e R s m args below meth c H locs cells slots Q (F0 m pc ls (.int x :: .ref a :: rest)) := r_put C hP hD hS q0 8 w1 (ci := 2) (Cn := RX2) (T := TX2) (N := 10) (ty0 := tyX2) (ty := .int) rfl inTX2 tyX2_ok nmX2 (by decide) fl_X2_30 rfl rfl (by decide +kernel) he rfl rfl hl hw hd kk
theorem g_X2_40 (C : Cx p s m args meth c cc nL RX2 rt D k) (hP : va_P D vwCl w H) (q0 : Nat) (he : w[q0]? = some (a, .inr (2, fs))) (hv : fs[6]? = some v) (hd : decode cc pc = .ok (.getfield 40, 3)) (kk : W p l e R s m args below meth c H locs cells slots Q (F0 m (pc + 3) ls (v :: rest))) : W p l e R s m args below meth c H locs cells slots Q (F0 m pc ls (.ref a :: rest)) := r_get C hP q0 6 (ci := 2) (Cn := RX2) (T := TX2) (N := 10) rfl inTX2 (by decide) fl_X2_40 rfl he hv hd kk
theorem p_X2_40 {x : Int32} (C : Cx p s m args meth c cc nL RX2 rt D k) (hP : va_P D vwCl w H) (hD : va_D A w) (hS : va_S A H0 H locs) (q0 : Nat) (w1 : va_W) (he : w[q0]? = some (a, .inr (2, fs))) (hl : 6 < fs.length) (hw : w.set q0 (a, .inr (2, fs.set 6 (.int x))) = w1) (hd : decode cc pc = .ok (.putfield 40, 3)) (kk : ∀ (H1 : Heap) (locs1 : List Loc), va_P D vwCl w1 H1 → va_D A w1 → va_S A H0 H1 locs1 → W p l e R s m args below meth c H1 locs1 cells slots Q (F0 m (pc + 3) ls rest)) : W p l e R s m args below meth c H locs cells slots Q (F0 m pc ls (.int x :: .ref a :: rest)) := r_put C hP hD hS q0 6 w1 (ci := 2) (Cn := RX2) (T := TX2) (N := 10) (ty0 := tyX2) (ty := .int) rfl inTX2 tyX2_ok nmX2 (by decide) fl_X2_40 rfl rfl (by decide +kernel) he rfl rfl hl hw hd kk
theorem g_X2_43 (C : Cx p s m args meth c cc nL RX2 rt D k) (hP : va_P D vwCl w H) (q0 : Nat) (he : w[q0]? = some (a, .inr (2, fs))) (hv : fs[7]? = some v) (hd : decode cc pc = .ok (.getfield 43, 3)) (kk : W p l e R s m args below meth c H locs cells slots Q (F0 m (pc + 3) ls (v :: rest))) : W p l e R s m args below meth c H locs cells slots Q (F0 m pc ls (.ref a :: rest)) := r_get C hP q0 7 (ci := 2) (Cn := RX2) (T := TX2) (N := 10) rfl inTX2 (by decide) fl_X2_43 rfl he hv hd kk
theorem p_X2_43 {x : Int32} (C : Cx p s m args meth c cc nL RX2 rt D k) (hP : va_P D vwCl w H) (hD : va_D A w) (hS : va_S A H0 H locs) (q0 : Nat) (w1 : va_W) (he : w[q0]? = some (a, .inr (2, fs))) (hl : 7 < fs.length) (hw : w.set q0 (a, .inr (2, fs.set 7 (.int x))) = w1) (hd : decode cc pc = .ok (.putfield 43, 3)) (kk : ∀ (H1 : Heap) (locs1 : List Loc), va_P D vwCl w1 H1 → va_D A w1 → va_S A H0 H1 locs1 → W p l e R s m args below meth c H1 locs1 cells slots Q (F0 m (pc + 3) ls rest)) : W p l e R s m args below meth c H locs cells slots Q (F0 m pc ls (.int x :: .ref a :: rest)) := r_put C hP hD hS q0 7 w1 (ci := 2) (Cn := RX2) (T := TX2) (N := 10) (ty0 := tyX2) (ty := .int) rfl inTX2 tyX2_ok nmX2 (by decide) fl_X2_43 rfl rfl (by decide +kernel) he rfl rfl hl hw hd kk
theorem g_X2_46 (C : Cx p s m args meth c cc nL RX2 rt D k) (hP : va_P D vwCl w H) (q0 : Nat) (he : w[q0]? = some (a, .inr (2, fs))) (hv : fs[9]? = some v) (hd : decode cc pc = .ok (.getfield 46, 3)) (kk : W p l e R s m args below meth c H locs cells slots Q (F0 m (pc + 3) ls (v :: rest))) : W p l e R s m args below meth c H locs cells slots Q (F0 m pc ls (.ref a :: rest)) := r_get C hP q0 9 (ci := 2) (Cn := RX2) (T := TX2) (N := 10) rfl inTX2 (by decide) fl_X2_46 rfl he hv hd kk
theorem p_X2_46 {x : Int64} (C : Cx p s m args meth c cc nL RX2 rt D k) (hP : va_P D vwCl w H) (hD : va_D A w) (hS : va_S A H0 H locs) (q0 : Nat) (w1 : va_W) (he : w[q0]? = some (a, .inr (2, fs))) (hl : 9 < fs.length) (hw : w.set q0 (a, .inr (2, fs.set 9 (.long x))) = w1) (hd : decode cc pc = .ok (.putfield 46, 3)) (kk : ∀ (H1 : Heap) (locs1 : List Loc), va_P D vwCl w1 H1 → va_D A w1 → va_S A H0 H1 locs1 → W p l e R s m args below meth c H1 locs1 cells slots Q (F0 m (pc + 3) ls rest)) : W p l e R s m args below meth c H locs cells slots Q (F0 m pc ls (.long x :: .ref a :: rest)) := r_put C hP hD hS q0 9 w1 (ci := 2) (Cn := RX2) (T := TX2) (N := 10) (ty0 := tyX2) (ty := .long) rfl inTX2 tyX2_ok nmX2 (by decide) fl_X2_46 rfl rfl (by decide +kernel) he rfl rfl hl hw hd kk
theorem g_X4_7 (C : Cx p s m args meth c cc nL RX4 rt D k) (hP : va_P D vwCl w H) (q0 : Nat) (he : w[q0]? = some (a, .inr (4, fs))) (hv : fs[0]? = some v) (hd : decode cc pc = .ok (.getfield 7, 3)) (kk : W p l e R s m args below meth c H locs cells slots Q (F0 m (pc + 3) ls (v :: rest))) : W p l e R s m args below meth c H locs cells slots Q (F0 m pc ls (.ref a :: rest)) := r_get C hP q0 0 (ci := 4) (Cn := RX4) (T := TX4) (N := 19) rfl inTX4 (by decide) fl_X4_7 rfl he hv hd kk
theorem g_X4_13 (C : Cx p s m args meth c cc nL RX4 rt D k) (hP : va_P D vwCl w H) (q0 : Nat) (he : w[q0]? = some (a, .inr (4, fs))) (hv : fs[1]? = some v) (hd : decode cc pc = .ok (.getfield 13, 3)) (kk : W p l e R s m args below meth c H locs cells slots Q (F0 m (pc + 3) ls (v :: rest))) : W p l e R s m args below meth c H locs cells slots Q (F0 m pc ls (.ref a :: rest)) := r_get C hP q0 1 (ci := 4) (Cn := RX4) (T := TX4) (N := 19) rfl inTX4 (by decide) fl_X4_13 rfl he hv hd kk
theorem g_X4_16 (C : Cx p s m args meth c cc nL RX4 rt D k) (hP : va_P D vwCl w H) (q0 : Nat) (he : w[q0]? = some (a, .inr (4, fs))) (hv : fs[2]? = some v) (hd : decode cc pc = .ok (.getfield 16, 3)) (kk : W p l e R s m args below meth c H locs cells slots Q (F0 m (pc + 3) ls (v :: rest))) : W p l e R s m args below meth c H locs cells slots Q (F0 m pc ls (.ref a :: rest)) := r_get C hP q0 2 (ci := 4) (Cn := RX4) (T := TX4) (N := 19) rfl inTX4 (by decide) fl_X4_16 rfl he hv hd kk
theorem g_X4_19 (C : Cx p s m args meth c cc nL RX4 rt D k) (hP : va_P D vwCl w H) (q0 : Nat) (he : w[q0]? = some (a, .inr (4, fs))) (hv : fs[3]? = some v) (hd : decode cc pc = .ok (.getfield 19, 3)) (kk : W p l e R s m args below meth c H locs cells slots Q (F0 m (pc + 3) ls (v :: rest))) : W p l e R s m args below meth c H locs cells slots Q (F0 m pc ls (.ref a :: rest)) := r_get C hP q0 3 (ci := 4) (Cn := RX4) (T := TX4) (N := 19) rfl inTX4 (by decide) fl_X4_19 rfl he hv hd kk
theorem g_X4_22 (C : Cx p s m args meth c cc nL RX4 rt D k) (hP : va_P D vwCl w H) (q0 : Nat) (he : w[q0]? = some (a, .inr (4, fs))) (hv : fs[4]? = some v) (hd : decode cc pc = .ok (.getfield 22, 3)) (kk : W p l e R s m args below meth c H locs cells slots Q (F0 m (pc + 3) ls (v :: rest))) : W p l e R s m args below meth c H locs cells slots Q (F0 m pc ls (.ref a :: rest)) := r_get C hP q0 4 (ci := 4) (Cn := RX4) (T := TX4) (N := 19) rfl inTX4 (by decide) fl_X4_22 rfl he hv hd kk
theorem g_X4_25 (C : Cx p s m args meth c cc nL RX4 rt D k) (hP : va_P D vwCl w H) (q0 : Nat) (he : w[q0]? = some (a, .inr (4, fs))) (hv : fs[6]? = some v) (hd : decode cc pc = .ok (.getfield 25, 3)) (kk : W p l e R s m args below meth c H locs cells slots Q (F0 m (pc + 3) ls (v :: rest))) : W p l e R s m args below meth c H locs cells slots Q (F0 m pc ls (.ref a :: rest)) := r_get C hP q0 6 (ci := 4) (Cn := RX4) (T := TX4) (N := 19) rfl inTX4 (by decide) fl_X4_25 rfl he hv hd kk
theorem p_X4_25 {x : Int32} (C : Cx p s m args meth c cc nL RX4 rt D k) (hP : va_P D vwCl w H) (hD : va_D A w) (hS : va_S A H0 H locs) (q0 : Nat) (w1 : va_W) (he : w[q0]? = some (a, .inr (4, fs))) (hl : 6 < fs.length) (hw : w.set q0 (a, .inr (4, fs.set 6 (.int x))) = w1) (hd : decode cc pc = .ok (.putfield 25, 3)) (kk : ∀ (H1 : Heap) (locs1 : List Loc), va_P D vwCl w1 H1 → va_D A w1 → va_S A H0 H1 locs1 → W p l e R s m args below meth c H1 locs1 cells slots Q (F0 m (pc + 3) ls rest)) : W p l e R s m args below meth c H locs cells slots Q (F0 m pc ls (.int x :: .ref a :: rest)) := r_put C hP hD hS q0 6 w1 (ci := 4) (Cn := RX4) (T := TX4) (N := 19) (ty0 := tyX4) (ty := .int) rfl inTX4 tyX4_ok nmX4 (by decide) fl_X4_25 rfl rfl (by decide +kernel) he rfl rfl hl hw hd kk
theorem g_X4_29 (C : Cx p s m args meth c cc nL RX4 rt D k) (hP : va_P D vwCl w H) (q0 : Nat) (he : w[q0]? = some (a, .inr (4, fs))) (hv : fs[8]? = some v) (hd : decode cc pc = .ok (.getfield 29, 3)) (kk : W p l e R s m args below meth c H locs cells slots Q (F0 m (pc + 3) ls (v :: rest))) : W p l e R s m args below meth c H locs cells slots Q (F0 m pc ls (.ref a :: rest)) := r_get C hP q0 8 (ci := 4) (Cn := RX4) (T := TX4) (N := 19) rfl inTX4 (by decide) fl_X4_29 rfl he hv hd kk
theorem g_X4_32 (C : Cx p s m args meth c cc nL RX4 rt D k) (hP : va_P D vwCl w H) (q0 : Nat) (he : w[q0]? = some (a, .inr (4, fs))) (hv : fs[9]? = some v) (hd : decode cc pc = .ok (.getfield 32, 3)) (kk : W p l e R s m args below meth c H locs cells slots Q (F0 m (pc + 3) ls (v :: rest))) : W p l e R s m args below meth c H locs cells slots Q (F0 m pc ls (.ref a :: rest)) := r_get C hP q0 9 (ci := 4) (Cn := RX4) (T := TX4) (N := 19) rfl inTX4 (by decide) fl_X4_32 rfl he hv hd kk
theorem g_X4_35 (C : Cx p s m args meth c cc nL RX4 rt D k) (hP : va_P D vwCl w H) (q0 : Nat) (he : w[q0]? = some (a, .inr (4, fs))) (hv : fs[15]? = some v) (hd : decode cc pc = .ok (.getfield 35, 3)) (kk : W p l e R s m args below meth c H locs cells slots Q (F0 m (pc + 3) ls (v :: rest))) : W p l e R s m args below meth c H locs cells slots Q (F0 m pc ls (.ref a :: rest)) := r_get C hP q0 15 (ci := 4) (Cn := RX4) (T := TX4) (N := 19) rfl inTX4 (by decide) fl_X4_35 rfl he hv hd kk
theorem g_X4_38 (C : Cx p s m args meth c cc nL RX4 rt D k) (hP : va_P D vwCl w H) (q0 : Nat) (he : w[q0]? = some (a, .inr (4, fs))) (hv : fs[16]? = some v) (hd : decode cc pc = .ok (.getfield 38, 3)) (kk : W p l e R s m args below meth c H locs cells slots Q (F0 m (pc + 3) ls (v :: rest))) : W p l e R s m args below meth c H locs cells slots Q (F0 m pc ls (.ref a :: rest)) := r_get C hP q0 16 (ci := 4) (Cn := RX4) (T := TX4) (N := 19) rfl inTX4 (by decide) fl_X4_38 rfl he hv hd kk
theorem g_X4_41 (C : Cx p s m args meth c cc nL RX4 rt D k) (hP : va_P D vwCl w H) (q0 : Nat) (he : w[q0]? = some (a, .inr (4, fs))) (hv : fs[17]? = some v) (hd : decode cc pc = .ok (.getfield 41, 3)) (kk : W p l e R s m args below meth c H locs cells slots Q (F0 m (pc + 3) ls (v :: rest))) : W p l e R s m args below meth c H locs cells slots Q (F0 m pc ls (.ref a :: rest)) := r_get C hP q0 17 (ci := 4) (Cn := RX4) (T := TX4) (N := 19) rfl inTX4 (by decide) fl_X4_41 rfl he hv hd kk
theorem g_X4_45 (C : Cx p s m args meth c cc nL RX4 rt D k) (hP : va_P D vwCl w H) (q0 : Nat) (he : w[q0]? = some (a, .inr (4, fs))) (hv : fs[18]? = some v) (hd : decode cc pc = .ok (.getfield 45, 3)) (kk : W p l e R s m args below meth c H locs cells slots Q (F0 m (pc + 3) ls (v :: rest))) : W p l e R s m args below meth c H locs cells slots Q (F0 m pc ls (.ref a :: rest)) := r_get C hP q0 18 (ci := 4) (Cn := RX4) (T := TX4) (N := 19) rfl inTX4 (by decide) fl_X4_45 rfl he hv hd kk
theorem g_X4_159 (C : Cx p s m args meth c cc nL RX4 rt D k) (hP : va_P D vwCl w H) (q0 : Nat) (he : w[q0]? = some (a, .inr (4, fs))) (hv : fs[7]? = some v) (hd : decode cc pc = .ok (.getfield 159, 3)) (kk : W p l e R s m args below meth c H locs cells slots Q (F0 m (pc + 3) ls (v :: rest))) : W p l e R s m args below meth c H locs cells slots Q (F0 m pc ls (.ref a :: rest)) := r_get C hP q0 7 (ci := 4) (Cn := RX4) (T := TX4) (N := 19) rfl inTX4 (by decide) fl_X4_159 rfl he hv hd kk
theorem p_X4_159 {x : Int32} (C : Cx p s m args meth c cc nL RX4 rt D k) (hP : va_P D vwCl w H) (hD : va_D A w) (hS : va_S A H0 H locs) (q0 : Nat) (w1 : va_W) (he : w[q0]? = some (a, .inr (4, fs))) (hl : 7 < fs.length) (hw : w.set q0 (a, .inr (4, fs.set 7 (.int x))) = w1) (hd : decode cc pc = .ok (.putfield 159, 3)) (kk : ∀ (H1 : Heap) (locs1 : List Loc), va_P D vwCl w1 H1 → va_D A w1 → va_S A H0 H1 locs1 → W p l e R s m args below meth c H1 locs1 cells slots Q (F0 m (pc + 3) ls rest)) : W p l e R s m args below meth c H locs cells slots Q (F0 m pc ls (.int x :: .ref a :: rest)) := r_put C hP hD hS q0 7 w1 (ci := 4) (Cn := RX4) (T := TX4) (N := 19) (ty0 := tyX4) (ty := .int) rfl inTX4 tyX4_ok nmX4 (by decide) fl_X4_159 rfl rfl (by decide +kernel) he rfl rfl hl hw hd kk
theorem g_X4_174 (C : Cx p s m args meth c cc nL RX4 rt D k) (hP : va_P D vwCl w H) (q0 : Nat) (he : w[q0]? = some (a, .inr (4, fs))) (hv : fs[10]? = some v) (hd : decode cc pc = .ok (.getfield 174, 3)) (kk : W p l e R s m args below meth c H locs cells slots Q (F0 m (pc + 3) ls (v :: rest))) : W p l e R s m args below meth c H locs cells slots Q (F0 m pc ls (.ref a :: rest)) := r_get C hP q0 10 (ci := 4) (Cn := RX4) (T := TX4) (N := 19) rfl inTX4 (by decide) fl_X4_174 rfl he hv hd kk
theorem p_X4_174 {x : Int32} (C : Cx p s m args meth c cc nL RX4 rt D k) (hP : va_P D vwCl w H) (hD : va_D A w) (hS : va_S A H0 H locs) (q0 : Nat) (w1 : va_W) (he : w[q0]? = some (a, .inr (4, fs))) (hl : 10 < fs.length) (hw : w.set q0 (a, .inr (4, fs.set 10 (.int x))) = w1) (hd : decode cc pc = .ok (.putfield 174, 3)) (kk : ∀ (H1 : Heap) (locs1 : List Loc), va_P D vwCl w1 H1 → va_D A w1 → va_S A H0 H1 locs1 → W p l e R s m args below meth c H1 locs1 cells slots Q (F0 m (pc + 3) ls rest)) : W p l e R s m args below meth c H locs cells slots Q (F0 m pc ls (.int x :: .ref a :: rest)) := r_put C hP hD hS q0 10 w1 (ci := 4) (Cn := RX4) (T := TX4) (N := 19) (ty0 := tyX4) (ty := .int) rfl inTX4 tyX4_ok nmX4 (by decide) fl_X4_174 rfl rfl (by decide +kernel) he rfl rfl hl hw hd kk
theorem g_X4_185 (C : Cx p s m args meth c cc nL RX4 rt D k) (hP : va_P D vwCl w H) (q0 : Nat) (he : w[q0]? = some (a, .inr (4, fs))) (hv : fs[12]? = some v) (hd : decode cc pc = .ok (.getfield 185, 3)) (kk : W p l e R s m args below meth c H locs cells slots Q (F0 m (pc + 3) ls (v :: rest))) : W p l e R s m args below meth c H locs cells slots Q (F0 m pc ls (.ref a :: rest)) := r_get C hP q0 12 (ci := 4) (Cn := RX4) (T := TX4) (N := 19) rfl inTX4 (by decide) fl_X4_185 rfl he hv hd kk
theorem p_X4_185 {x : Int32} (C : Cx p s m args meth c cc nL RX4 rt D k) (hP : va_P D vwCl w H) (hD : va_D A w) (hS : va_S A H0 H locs) (q0 : Nat) (w1 : va_W) (he : w[q0]? = some (a, .inr (4, fs))) (hl : 12 < fs.length) (hw : w.set q0 (a, .inr (4, fs.set 12 (.int x))) = w1) (hd : decode cc pc = .ok (.putfield 185, 3)) (kk : ∀ (H1 : Heap) (locs1 : List Loc), va_P D vwCl w1 H1 → va_D A w1 → va_S A H0 H1 locs1 → W p l e R s m args below meth c H1 locs1 cells slots Q (F0 m (pc + 3) ls rest)) : W p l e R s m args below meth c H locs cells slots Q (F0 m pc ls (.int x :: .ref a :: rest)) := r_put C hP hD hS q0 12 w1 (ci := 4) (Cn := RX4) (T := TX4) (N := 19) (ty0 := tyX4) (ty := .int) rfl inTX4 tyX4_ok nmX4 (by decide) fl_X4_185 rfl rfl (by decide +kernel) he rfl rfl hl hw hd kk
theorem g_X4_188 (C : Cx p s m args meth c cc nL RX4 rt D k) (hP : va_P D vwCl w H) (q0 : Nat) (he : w[q0]? = some (a, .inr (4, fs))) (hv : fs[11]? = some v) (hd : decode cc pc = .ok (.getfield 188, 3)) (kk : W p l e R s m args below meth c H locs cells slots Q (F0 m (pc + 3) ls (v :: rest))) : W p l e R s m args below meth c H locs cells slots Q (F0 m pc ls (.ref a :: rest)) := r_get C hP q0 11 (ci := 4) (Cn := RX4) (T := TX4) (N := 19) rfl inTX4 (by decide) fl_X4_188 rfl he hv hd kk
theorem p_X4_188 {x : Int32} (C : Cx p s m args meth c cc nL RX4 rt D k) (hP : va_P D vwCl w H) (hD : va_D A w) (hS : va_S A H0 H locs) (q0 : Nat) (w1 : va_W) (he : w[q0]? = some (a, .inr (4, fs))) (hl : 11 < fs.length) (hw : w.set q0 (a, .inr (4, fs.set 11 (.int x))) = w1) (hd : decode cc pc = .ok (.putfield 188, 3)) (kk : ∀ (H1 : Heap) (locs1 : List Loc), va_P D vwCl w1 H1 → va_D A w1 → va_S A H0 H1 locs1 → W p l e R s m args below meth c H1 locs1 cells slots Q (F0 m (pc + 3) ls rest)) : W p l e R s m args below meth c H locs cells slots Q (F0 m pc ls (.int x :: .ref a :: rest)) := r_put C hP hD hS q0 11 w1 (ci := 4) (Cn := RX4) (T := TX4) (N := 19) (ty0 := tyX4) (ty := .int) rfl inTX4 tyX4_ok nmX4 (by decide) fl_X4_188 rfl rfl (by decide +kernel) he rfl rfl hl hw hd kk
theorem g_X4_200 (C : Cx p s m args meth c cc nL RX4 rt D k) (hP : va_P D vwCl w H) (q0 : Nat) (he : w[q0]? = some (a, .inr (4, fs))) (hv : fs[14]? = some v) (hd : decode cc pc = .ok (.getfield 200, 3)) (kk : W p l e R s m args below meth c H locs cells slots Q (F0 m (pc + 3) ls (v :: rest))) : W p l e R s m args below meth c H locs cells slots Q (F0 m pc ls (.ref a :: rest)) := r_get C hP q0 14 (ci := 4) (Cn := RX4) (T := TX4) (N := 19) rfl inTX4 (by decide) fl_X4_200 rfl he hv hd kk
theorem p_X4_200 (C : Cx p s m args meth c cc nL RX4 rt D k) (hP : va_P D vwCl w H) (hD : va_D A w) (hS : va_S A H0 H locs) (q0 : Nat) (w1 : va_W) (he : w[q0]? = some (a, .inr (4, fs))) (hn : narrow .boolean v = v) (hf : fits .boolean v = true) (hl : 14 < fs.length) (hw : w.set q0 (a, .inr (4, fs.set 14 (v))) = w1) (hd : decode cc pc = .ok (.putfield 200, 3)) (kk : ∀ (H1 : Heap) (locs1 : List Loc), va_P D vwCl w1 H1 → va_D A w1 → va_S A H0 H1 locs1 → W p l e R s m args below meth c H1 locs1 cells slots Q (F0 m (pc + 3) ls rest)) : W p l e R s m args below meth c H locs cells slots Q (F0 m pc ls (v :: .ref a :: rest)) := r_put C hP hD hS q0 14 w1 (ci := 4) (Cn := RX4) (T := TX4) (N := 19) (ty0 := tyX4) (ty := .boolean) rfl inTX4 tyX4_ok nmX4 (by decide) fl_X4_200 rfl rfl (by decide +kernel) he hn hf hl hw hd kk
theorem g_X4_211 (C : Cx p s m args meth c cc nL RX4 rt D k) (hP : va_P D vwCl w H) (q0 : Nat) (he : w[q0]? = some (a, .inr (4, fs))) (hv : fs[13]? = some v) (hd : decode cc pc = .ok (.getfield 211, 3)) (kk : W p l e R s m args below meth c H locs cells slots Q (F0 m (pc + 3) ls (v :: rest))) : W p l e R s m args below meth c H locs cells slots Q (F0 m pc ls (.ref a :: rest)) := r_get C hP q0 13 (ci := 4) (Cn := RX4) (T := TX4) (N := 19) rfl inTX4 (by decide) fl_X4_211 rfl he hv hd kk
theorem p_X4_211 {x : Int32} (C : Cx p s m args meth c cc nL RX4 rt D k) (hP : va_P D vwCl w H) (hD : va_D A w) (hS : va_S A H0 H locs) (q0 : Nat) (w1 : va_W) (he : w[q0]? = some (a, .inr (4, fs))) (hl : 13 < fs.length) (hw : w.set q0 (a, .inr (4, fs.set 13 (.int x))) = w1) (hd : decode cc pc = .ok (.putfield 211, 3)) (kk : ∀ (H1 : Heap) (locs1 : List Loc), va_P D vwCl w1 H1 → va_D A w1 → va_S A H0 H1 locs1 → W p l e R s m args below meth c H1 locs1 cells slots Q (F0 m (pc + 3) ls rest)) : W p l e R s m args below meth c H locs cells slots Q (F0 m pc ls (.int x :: .ref a :: rest)) := r_put C hP hD hS q0 13 w1 (ci := 4) (Cn := RX4) (T := TX4) (N := 19) (ty0 := tyX4) (ty := .int) rfl inTX4 tyX4_ok nmX4 (by decide) fl_X4_211 rfl rfl (by decide +kernel) he rfl rfl hl hw hd kk
theorem g_X4_293 (C : Cx p s m args meth c cc nL RX4 rt D k) (hP : va_P D vwCl w H) (q0 : Nat) (he : w[q0]? = some (a, .inr (4, fs))) (hv : fs[5]? = some v) (hd : decode cc pc = .ok (.getfield 293, 3)) (kk : W p l e R s m args below meth c H locs cells slots Q (F0 m (pc + 3) ls (v :: rest))) : W p l e R s m args below meth c H locs cells slots Q (F0 m pc ls (.ref a :: rest)) := r_get C hP q0 5 (ci := 4) (Cn := RX4) (T := TX4) (N := 19) rfl inTX4 (by decide) fl_X4_293 rfl he hv hd kk
theorem p_X4_293 (C : Cx p s m args meth c cc nL RX4 rt D k) (hP : va_P D vwCl w H) (hD : va_D A w) (hS : va_S A H0 H locs) (q0 : Nat) (w1 : va_W) (he : w[q0]? = some (a, .inr (4, fs))) (hn : narrow .boolean v = v) (hf : fits .boolean v = true) (hl : 5 < fs.length) (hw : w.set q0 (a, .inr (4, fs.set 5 (v))) = w1) (hd : decode cc pc = .ok (.putfield 293, 3)) (kk : ∀ (H1 : Heap) (locs1 : List Loc), va_P D vwCl w1 H1 → va_D A w1 → va_S A H0 H1 locs1 → W p l e R s m args below meth c H1 locs1 cells slots Q (F0 m (pc + 3) ls rest)) : W p l e R s m args below meth c H locs cells slots Q (F0 m pc ls (v :: .ref a :: rest)) := r_put C hP hD hS q0 5 w1 (ci := 4) (Cn := RX4) (T := TX4) (N := 19) (ty0 := tyX4) (ty := .boolean) rfl inTX4 tyX4_ok nmX4 (by decide) fl_X4_293 rfl rfl (by decide +kernel) he hn hf hl hw hd kk
end FR
end
section
/-! loops, joins -/
theorem lv_eq {ls : Array Slot} {nL : Nat} {a b : List (Nat × Value)} (h : lv_has ls nL a) (e : a = b) : lv_has ls nL b := e ▸ h
theorem va_eq {D : va_G} {cl : List vw_C} {a b : va_W} {H : Heap} (h : va_P D cl a H) (e : a = b) : va_P D cl b H := e ▸ h
theorem va_eqD {A : Nat → Prop} {a b : va_W} (h : va_D A a) (e : a = b) : va_D A b := e ▸ h
theorem iB1 {P : Prop} [Decidable P] (h : P) : iI 1 = iB P := by rw [iB, if_pos h]; rfl
theorem iB0 {P : Prop} [Decidable P] (h : ¬ P) : iI 0 = iB P := by rw [iB, if_neg h]; rfl
section LOOPS
variable {p : Program} {l : Launch} {e : Env} {R : Room} {s : State} {m : MethodId} {args : Array Value} {below : List Frame} {meth : Method} {c : Code} {H : Heap} {locs : List Loc} {cells slots : Nat} {Q : State → Prop}
variable {nL : Nat} {D : va_G} {pc : Nat} {ls : Array Slot} {A : Nat → Prop} {H0 : Heap}
theorem r_loopR (I : Nat → List (Nat × Value)) (N : Nat) (h0 : lv_has ls nL (I 0))
    (step : ∀ n : Nat, n < N → (∀ ls : Array Slot, lv_has ls nL (I (n + 1)) → W p l e R s m args below meth c H locs cells slots Q (F0 m pc ls [])) → ∀ ls : Array Slot, lv_has ls nL (I n) → W p l e R s m args below meth c H locs cells slots Q (F0 m pc ls []))
    (out : ∀ ls : Array Slot, lv_has ls nL (I N) → W p l e R s m args below meth c H locs cells slots Q (F0 m pc ls [])) : W p l e R s m args below meth c H locs cells slots Q (F0 m pc ls []) := by
  have key : ∀ j n : Nat, n + j = N → ∀ ls : Array Slot, lv_has ls nL (I n) → W p l e R s m args below meth c H locs cells slots Q (F0 m pc ls []) := by
    intro j
    induction j with
    | zero => intro n hn ls hl; rw [Nat.add_zero] at hn; subst hn; exact out ls hl
    | succ j ih => intro n hn ls hl; exact step n (by omega) (fun ls hl => ih (n + 1) (by omega) ls hl) ls hl
  exact key N 0 (Nat.zero_add N) ls h0
theorem r_loopW (I : Nat → List (Nat × Value)) (Wd : Nat → va_W) (N : Nat) (h0 : lv_has ls nL (I 0)) (hP : va_P D vwCl (Wd 0) H) (hD : va_D A (Wd 0)) (hS : va_S A H0 H locs)
    (step : ∀ n : Nat, n < N → (∀ (ls : Array Slot) (H : Heap) (locs : List Loc), lv_has ls nL (I (n + 1)) → va_P D vwCl (Wd (n + 1)) H → va_D A (Wd (n + 1)) → va_S A H0 H locs → W p l e R s m args below meth c H locs cells slots Q (F0 m pc ls [])) → ∀ (ls : Array Slot) (H : Heap) (locs : List Loc), lv_has ls nL (I n) → va_P D vwCl (Wd n) H → va_D A (Wd n) → va_S A H0 H locs → W p l e R s m args below meth c H locs cells slots Q (F0 m pc ls []))
    (out : ∀ (ls : Array Slot) (H : Heap) (locs : List Loc), lv_has ls nL (I N) → va_P D vwCl (Wd N) H → va_D A (Wd N) → va_S A H0 H locs → W p l e R s m args below meth c H locs cells slots Q (F0 m pc ls [])) : W p l e R s m args below meth c H locs cells slots Q (F0 m pc ls []) := by
  have key : ∀ j n : Nat, n + j = N → ∀ (ls : Array Slot) (H : Heap) (locs : List Loc), lv_has ls nL (I n) → va_P D vwCl (Wd n) H → va_D A (Wd n) → va_S A H0 H locs → W p l e R s m args below meth c H locs cells slots Q (F0 m pc ls []) := by
    intro j
    induction j with
    | zero => intro n hn ls H locs hl hP hD hS; rw [Nat.add_zero] at hn; subst hn; exact out ls H locs hl hP hD hS
    | succ j ih => intro n hn ls H locs hl hP hD hS; exact step n (by omega) (fun ls H locs hl hP hD hS => ih (n + 1) (by omega) ls H locs hl hP hD hS) ls H locs hl hP hD hS
  exact key N 0 (Nat.zero_add N) ls H locs h0 hP hD hS
theorem r_joinR (pcJ : Nat) {X : Type} (Px : X → Prop) (I : X → List (Nat × Value)) (St : X → List Value) {g : JFrame}
    (kJ : ∀ (x : X) (ls : Array Slot), Px x → lv_has ls nL (I x) → W p l e R s m args below meth c H locs cells slots Q (F0 m pcJ ls (St x)))
    (km : (∀ (x : X) (ls : Array Slot), Px x → lv_has ls nL (I x) → W p l e R s m args below meth c H locs cells slots Q (F0 m pcJ ls (St x))) → W p l e R s m args below meth c H locs cells slots Q g) : W p l e R s m args below meth c H locs cells slots Q g := km kJ
theorem r_joinW (pcJ : Nat) {X : Type} (Px : X → Prop) (I : X → List (Nat × Value)) (St : X → List Value) (Wd : X → va_W) {g : JFrame}
    (kJ : ∀ (x : X) (ls : Array Slot) (H : Heap) (locs : List Loc), Px x → lv_has ls nL (I x) → va_P D vwCl (Wd x) H → va_D A (Wd x) → va_S A H0 H locs → W p l e R s m args below meth c H locs cells slots Q (F0 m pcJ ls (St x)))
    (km : (∀ (x : X) (ls : Array Slot) (H : Heap) (locs : List Loc), Px x → lv_has ls nL (I x) → va_P D vwCl (Wd x) H → va_D A (Wd x) → va_S A H0 H locs → W p l e R s m args below meth c H locs cells slots Q (F0 m pcJ ls (St x))) → W p l e R s m args below meth c H locs cells slots Q g) : W p l e R s m args below meth c H locs cells slots Q g := km kJ
end LOOPS
/-! the reference's cells -/
def wM (a : Nat → Nat) (k : Nat → ClassId) (s kp ot sd st sp tp bi si : Int → Int) (nu mo : Int → Int64) (ik id tl ta fr to va iw : Int) : va_W :=
  [(a 0, .inr (4, [.ref (a 1), .ref (a 2), .ref (a 3), .ref (a 4), .ref (a 5), .int (iI ik), .int (iI id), .int (iI tl), .ref (a 6), .ref (a 7), .int (iI ta), .int (iI fr), .int (iI to), .int (iI va), .int (iI iw), .ref (a 8), .ref (a 9), .ref (a 10), .ref (a 11)])),
   (a 1, .inl (k 0, 123, .inl (arr s))), (a 2, .inl (k 0, 123, .inl (arr kp))), (a 3, .inl (k 0, 123, .inl (arr ot))), (a 4, .inl (k 0, 123, .inl (arr sd))), (a 5, .inl (k 0, 7, .inl (arr st))), (a 6, .inl (k 0, 48, .inl (arr sp))), (a 7, .inl (k 0, 120, .inl (arr tp))), (a 8, .inl (k 0, 4, .inl (arr bi))), (a 9, .inl (k 0, 4, .inl (arr si))),
   (a 10, .inl (k 1, 160, .inr (.inl (arL nu)))), (a 11, .inl (k 1, 40, .inr (.inl (arL mo))))]
end
section
/-! what the reference does, as functions of its row s -/
def Rg (s : Int → Int) : Prop := ∀ i, i ≠ 1 → 0 ≤ s i ∧ s i < 100000
abbrev untrue (s : Int → Int) (c : Int) : Prop := s (3 + c) ≠ s (51 + c)
def besd (c w : Int) : Int := if w = 0 then (if c / 8 = 0 then -1 else c - 8) else if w = 1 then (if c % 8 = 7 then -1 else c + 1) else if w = 2 then (if c / 8 = 5 then -1 else c + 8) else (if c % 8 = 0 then -1 else c - 1)
theorem besd_lt {c w : Int} (h0 : 0 ≤ c) (h1 : c < 48) : -1 ≤ besd c w ∧ besd c w < 48 := by
  unfold besd
  repeat' split
  all_goals omega
def apt (a b : Int) : Int := (if a / 8 - b / 8 < 0 then -(a / 8 - b / 8) else a / 8 - b / 8) + (if a % 8 - b % 8 < 0 then -(a % 8 - b % 8) else a % 8 - b % 8)
theorem apt_rg {a b : Int} (h0 : 0 ≤ a) (h1 : a < 48) (h2 : 0 ≤ b) (h3 : b < 48) : 0 ≤ apt a b ∧ apt a b < 13 := by
  unfold apt
  split <;> split <;> omega
def cntU (s : Int → Int) : Nat → Int
  | 0 => 0
  | n + 1 => cntU s n + (if untrue s n then 1 else 0)
theorem cntU_rg (s : Int → Int) : ∀ n : Nat, 0 ≤ cntU s n ∧ cntU s n ≤ n
  | 0 => ⟨Int.le_refl 0, Int.le_refl 0⟩
  | n + 1 => by
    have h := cntU_rg s n
    rw [cntU]
    split <;> omega
abbrev wrongMany (s : Int → Int) : Int := cntU s 48
def cntB (s : Int → Int) (c : Int) : Nat → Int
  | 0 => 0
  | n + 1 => cntB s c n + (if 0 ≤ besd c n ∧ untrue s (besd c n) then 1 else 0)
theorem cntB_rg (s : Int → Int) (c : Int) : ∀ n : Nat, 0 ≤ cntB s c n ∧ cntB s c n ≤ n
  | 0 => ⟨Int.le_refl 0, Int.le_refl 0⟩
  | n + 1 => by
    have h := cntB_rg s c n
    rw [cntB]
    split <;> omega
abbrev wrongBeside (s : Int → Int) (c : Int) : Int := cntB s c 4
theorem pn0 {D : va_G} {cl : List vw_C} {H : Heap} : va_P D cl [] H := fun k q h => by simp at h
end
section
section MODEL
variable {l : Launch} {D : va_G} {k : Nat → ClassId} {a : Nat → Nat} {s kp ot sd st sp tp bi si : Int → Int} {nu mo : Int → Int64} {ik dl tl ta fr to va iw : Int}
set_option maxHeartbeats 4000000 in
set_option maxRecDepth 100000 in
theorem cM_in {v : Int} {lo : Int} {hi : Int} (hv : In64 v) (hlo : In64 lo) (hhi : In64 hi) : MR l yX4_in cX4_in 6 (some .boolean) 0 0 D k [.long (lI v), .long (lI lo), .long (lI hi)] [] (.int (iB (lo ≤ v ∧ v ≤ hi))) := by
  refine MR.mk RX4 rfl (by decide +kernel) (Nat.le_of_ble_eq_true rfl) (fun p e U m0 below meth cd ls C hP hl => ?_)
  have hl : lv_has ls 6 [(0, .long (lI v)), (2, .long (lI lo)), (4, .long (lI hi))] := hl
  have hv1 := hv.1
  have hv2 := hv.2
  have hlo1 := hlo.1
  have hlo2 := hlo.2
  have hhi1 := hhi.1
  have hhi2 := hhi.2
  refine r_lload_n C dX4_in_0 rfl (lv_at hl 0 rfl) ?_
  refine r_lload_n C dX4_in_1 rfl (lv_at hl 1 rfl) ?_
  refine r_lcmp_lt C (tgt := 17) dX4_in_2 dX4_in_3 (by decide) (by exact ⟨by omega, by omega⟩) (by exact ⟨by omega, by omega⟩) (fun h1 => ?_) (fun h1 => ?_)
  · refine r_iconst C dX4_in_17 ?_
    exact r_zretR C (iB0 (by omega)) dX4_in_18
  · refine r_lload_n C dX4_in_6 rfl (lv_at hl 0 rfl) ?_
    refine r_lload C dX4_in_7 (lv_at hl 2 rfl) ?_
    refine r_lcmp_gt C (tgt := 17) dX4_in_9 dX4_in_10 (by decide) (by exact ⟨by omega, by omega⟩) (by exact ⟨by omega, by omega⟩) (fun h2 => ?_) (fun h2 => ?_)
    · refine r_iconst C dX4_in_17 ?_
      exact r_zretR C (iB0 (by omega)) dX4_in_18
    · refine r_iconst C dX4_in_13 ?_
      refine r_goto C (tgt := 18) dX4_in_14 (by decide) ?_
      exact r_zretR C (iB1 ⟨by omega, by omega⟩) dX4_in_18
set_option maxHeartbeats 4000000 in
set_option maxRecDepth 100000 in
theorem cM_isCell {c : Int} (hc : In32 c) : MR l yX4_isCell cX4_isCell 1 (some .boolean) 1 25 D k [.int (iI c)] [] (.int (iB (0 ≤ c ∧ c ≤ 47))) := by
  refine MR.mk RX4 rfl (by decide +kernel) (Nat.le_of_ble_eq_true rfl) (fun p e U m0 below meth cd ls C hP hl => ?_)
  have hl : lv_has ls 1 [(0, .int (iI c))] := hl
  have hc1 := hc.1
  have hc2 := hc.2
  refine r_iload_n C dX4_isCell_0 rfl (lv_at hl 0 rfl) ?_
  refine r_i2l C dX4_isCell_1 (by exact ⟨by omega, by omega⟩) ?_
  refine r_lconst C (z := 0) dX4_isCell_2 (by decide) ?_
  refine r_ldc2 C (47) kl_X4_49 (by decide) dX4_isCell_3 ?_
  refine r_cSR3 C m_X4_51 (cM_in (by exact ⟨by omega, by omega⟩) ⟨by decide, by decide⟩ ⟨by decide, by decide⟩) pn0 hl.1 dX4_isCell_6 ?_
  exact r_zretR C rfl dX4_isCell_9
set_option maxHeartbeats 4000000 in
set_option maxRecDepth 100000 in
theorem cM_isKind {c : Int} (hc : In32 c) : MR l yX4_isKind cX4_isKind 1 (some .boolean) 1 25 D k [.int (iI c)] [] (.int (iB (0 ≤ c ∧ c ≤ 5))) := by
  refine MR.mk RX4 rfl (by decide +kernel) (Nat.le_of_ble_eq_true rfl) (fun p e U m0 below meth cd ls C hP hl => ?_)
  have hl : lv_has ls 1 [(0, .int (iI c))] := hl
  have hc1 := hc.1
  have hc2 := hc.2
  refine r_iload_n C dX4_isKind_0 rfl (lv_at hl 0 rfl) ?_
  refine r_i2l C dX4_isKind_1 (by exact ⟨by omega, by omega⟩) ?_
  refine r_lconst C (z := 0) dX4_isKind_2 (by decide) ?_
  refine r_ldc2 C (5) kl_X4_55 (by decide) dX4_isKind_3 ?_
  refine r_cSR3 C m_X4_51 (cM_in (by exact ⟨by omega, by omega⟩) ⟨by decide, by decide⟩ ⟨by decide, by decide⟩) pn0 hl.1 dX4_isKind_6 ?_
  exact r_zretR C rfl dX4_isKind_9
set_option maxHeartbeats 4000000 in
set_option maxRecDepth 100000 in
theorem cM_isOne {c : Int} (hc : In32 c) : MR l yX4_isOne cX4_isOne 1 (some .boolean) 1 25 D k [.int (iI c)] [] (.int (iB (0 ≤ c ∧ c ≤ 3))) := by
  refine MR.mk RX4 rfl (by decide +kernel) (Nat.le_of_ble_eq_true rfl) (fun p e U m0 below meth cd ls C hP hl => ?_)
  have hl : lv_has ls 1 [(0, .int (iI c))] := hl
  have hc1 := hc.1
  have hc2 := hc.2
  refine r_iload_n C dX4_isOne_0 rfl (lv_at hl 0 rfl) ?_
  refine r_i2l C dX4_isOne_1 (by exact ⟨by omega, by omega⟩) ?_
  refine r_lconst C (z := 0) dX4_isOne_2 (by decide) ?_
  refine r_ldc2 C (3) kl_X4_276 (by decide) dX4_isOne_3 ?_
  refine r_cSR3 C m_X4_51 (cM_in (by exact ⟨by omega, by omega⟩) ⟨by decide, by decide⟩ ⟨by decide, by decide⟩) pn0 hl.1 dX4_isOne_6 ?_
  exact r_zretR C rfl dX4_isOne_9
set_option maxHeartbeats 4000000 in
set_option maxRecDepth 100000 in
theorem cM_isLetter {c : Int} (hc : In32 c) : MR l yX4_isLetter cX4_isLetter 1 (some .boolean) 1 25 D k [.int (iI c)] [] (.int (iB (97 ≤ c ∧ c ≤ 122))) := by
  refine MR.mk RX4 rfl (by decide +kernel) (Nat.le_of_ble_eq_true rfl) (fun p e U m0 below meth cd ls C hP hl => ?_)
  have hl : lv_has ls 1 [(0, .int (iI c))] := hl
  have hc1 := hc.1
  have hc2 := hc.2
  refine r_iload_n C dX4_isLetter_0 rfl (lv_at hl 0 rfl) ?_
  refine r_i2l C dX4_isLetter_1 (by exact ⟨by omega, by omega⟩) ?_
  refine r_ldc2 C (97) kl_X4_177 (by decide) dX4_isLetter_2 ?_
  refine r_ldc2 C (122) kl_X4_179 (by decide) dX4_isLetter_5 ?_
  refine r_cSR3 C m_X4_51 (cM_in (by exact ⟨by omega, by omega⟩) ⟨by decide, by decide⟩ ⟨by decide, by decide⟩) pn0 hl.1 dX4_isLetter_8 ?_
  exact r_zretR C rfl dX4_isLetter_11
set_option maxHeartbeats 4000000 in
set_option maxRecDepth 100000 in
theorem cM_isDigit {c : Int} (hc : In32 c) : MR l yX4_isDigit cX4_isDigit 1 (some .boolean) 1 25 D k [.int (iI c)] [] (.int (iB (48 ≤ c ∧ c ≤ 57))) := by
  refine MR.mk RX4 rfl (by decide +kernel) (Nat.le_of_ble_eq_true rfl) (fun p e U m0 below meth cd ls C hP hl => ?_)
  have hl : lv_has ls 1 [(0, .int (iI c))] := hl
  have hc1 := hc.1
  have hc2 := hc.2
  refine r_iload_n C dX4_isDigit_0 rfl (lv_at hl 0 rfl) ?_
  refine r_i2l C dX4_isDigit_1 (by exact ⟨by omega, by omega⟩) ?_
  refine r_ldc2 C (48) kl_X4_181 (by decide) dX4_isDigit_2 ?_
  refine r_ldc2 C (57) kl_X4_183 (by decide) dX4_isDigit_5 ?_
  refine r_cSR3 C m_X4_51 (cM_in (by exact ⟨by omega, by omega⟩) ⟨by decide, by decide⟩ ⟨by decide, by decide⟩) pn0 hl.1 dX4_isDigit_8 ?_
  exact r_zretR C rfl dX4_isDigit_11
set_option maxHeartbeats 4000000 in
set_option maxRecDepth 100000 in
theorem cM_spot {m : Int} {w : Int}  : MR l yX4_spot cX4_spot 2 (some .int) 0 0 D k [.int (iI m), .int (iI w)] [] (.int (iI (99 + 4 * m + w))) := by
  refine MR.mk RX4 rfl (by decide +kernel) (Nat.le_of_ble_eq_true rfl) (fun p e U m0 below meth cd ls C hP hl => ?_)
  have hl : lv_has ls 2 [(0, .int (iI m)), (1, .int (iI w))] := hl
  refine r_bipush C dX4_spot_0 (by decide) ?_
  refine r_iconst C dX4_spot_2 ?_
  refine r_iload_n C dX4_spot_3 rfl (lv_at hl 0 rfl) ?_
  refine r_imul C dX4_spot_4 ?_
  refine r_iadd C dX4_spot_5 ?_
  refine r_iload_n C dX4_spot_6 rfl (lv_at hl 1 rfl) ?_
  refine r_iadd C dX4_spot_7 ?_
  exact r_iretR C rfl dX4_spot_8
set_option maxHeartbeats 4000000 in
set_option maxRecDepth 100000 in
theorem cM_atLeastOne {v : Int} (hv : In32 v) : MR l yX4_atLeastOne cX4_atLeastOne 1 (some .int) 0 0 D k [.int (iI v)] [] (.int (iI (if v < 1 then 1 else v))) := by
  refine MR.mk RX4 rfl (by decide +kernel) (Nat.le_of_ble_eq_true rfl) (fun p e U m0 below meth cd ls C hP hl => ?_)
  have hl : lv_has ls 1 [(0, .int (iI v))] := hl
  have hv1 := hv.1
  have hv2 := hv.2
  refine r_iload_n C dX4_atLeastOne_0 rfl (lv_at hl 0 rfl) ?_
  refine r_iconst C dX4_atLeastOne_1 ?_
  refine r_icmp_ge C (tgt := 9) dX4_atLeastOne_2 (by decide) (by exact ⟨by omega, by omega⟩) ⟨by decide, by decide⟩ (fun h1 => ?_) (fun h1 => ?_)
  · refine r_iload_n C dX4_atLeastOne_9 rfl (lv_at hl 0 rfl) ?_
    exact r_iretR C (by simp only [h1, if_true, if_false]) dX4_atLeastOne_10
  · refine r_iconst C dX4_atLeastOne_5 ?_
    refine r_goto C (tgt := 10) dX4_atLeastOne_6 (by decide) ?_
    exact r_iretR C (by simp only [h1, if_true, if_false]) dX4_atLeastOne_10
set_option maxHeartbeats 4000000 in
set_option maxRecDepth 100000 in
theorem cM_isMender {m : Int} (hm : In32 m) (hs : Rg s) : MR l yX4_isMender cX4_isMender 2 (some .boolean) 1 25 D k [.ref (a 0), .int (iI m)] (wM a k s kp ot sd st sp tp bi si nu mo ik dl tl ta fr to va iw) (.int (iB (0 ≤ m ∧ m ≤ s 0 - 1))) := by
  refine MR.mk RX4 rfl (by decide +kernel) (Nat.le_of_ble_eq_true rfl) (fun p e U m0 below meth cd ls C hP hl => ?_)
  have hl : lv_has ls 2 [(0, .ref (a 0)), (1, .int (iI m))] := hl
  have hm1 := hm.1
  have hm2 := hm.2
  refine r_iload_n C dX4_isMender_0 rfl (lv_at hl 1 rfl) ?_
  refine r_i2l C dX4_isMender_1 (by exact ⟨by omega, by omega⟩) ?_
  refine r_lconst C (z := 0) dX4_isMender_2 (by decide) ?_
  refine r_aload_n C dX4_isMender_3 rfl (lv_at hl 0 rfl) ?_
  refine g_X4_7 C hP 0 rfl rfl dX4_isMender_4 ?_
  refine r_iconst C dX4_isMender_7 ?_
  refine r_iald C hP 1 rfl dX4_isMender_8 (by omega) (by omega) (by decide) ?_
  refine r_iconst C dX4_isMender_9 ?_
  refine r_isub C dX4_isMender_10 ?_
  refine r_i2l C dX4_isMender_11 (by have := hs (0) (by omega); exact ⟨by omega, by omega⟩) ?_
  refine r_cSR3 C m_X4_51 (cM_in (by exact ⟨by omega, by omega⟩) ⟨by decide, by decide⟩ (by have := hs (0) (by omega); exact ⟨by omega, by omega⟩)) pn0 hl.1 dX4_isMender_12 ?_
  exact r_zretR C rfl dX4_isMender_15
set_option maxHeartbeats 4000000 in
set_option maxRecDepth 100000 in
theorem cM_its {m : Int} {w : Int} (hm : 0 ≤ m) (hm1 : m < 6) (hw : 0 ≤ w) (hw1 : w < 4) : MR l yX4_its cX4_its 3 (some .int) 1 21 D k [.ref (a 0), .int (iI m), .int (iI w)] (wM a k s kp ot sd st sp tp bi si nu mo ik dl tl ta fr to va iw) (.int (iI (s (99 + 4 * m + w)))) := by
  refine MR.mk RX4 rfl (by decide +kernel) (Nat.le_of_ble_eq_true rfl) (fun p e U m0 below meth cd ls C hP hl => ?_)
  have hl : lv_has ls 3 [(0, .ref (a 0)), (1, .int (iI m)), (2, .int (iI w))] := hl
  refine r_aload_n C dX4_its_0 rfl (lv_at hl 0 rfl) ?_
  refine g_X4_7 C hP 0 rfl rfl dX4_its_1 ?_
  refine r_iload_n C dX4_its_4 rfl (lv_at hl 1 rfl) ?_
  refine r_iload_n C dX4_its_5 rfl (lv_at hl 2 rfl) ?_
  refine r_cSR2 C m_X4_57 cM_spot pn0 hl.1 dX4_its_6 ?_
  refine r_iald C hP 1 rfl dX4_its_9 (by omega) (by omega) (by decide) ?_
  exact r_iretR C rfl dX4_its_10
set_option maxHeartbeats 4000000 in
set_option maxRecDepth 100000 in
theorem cM_beside {c : Int} {w : Int} (hc : 0 ≤ c) (hc1 : c < 48) (hw : In32 w) : MR l yX4_beside cX4_beside 4 (some .int) 0 0 D k [.int (iI c), .int (iI w)] [] (.int (iI (besd c w))) := by
  refine MR.mk RX4 rfl (by decide +kernel) (Nat.le_of_ble_eq_true rfl) (fun p e U m0 below meth cd ls C hP hl => ?_)
  have hl : lv_has ls 4 [(0, .int (iI c)), (1, .int (iI w))] := hl
  have hw1 := hw.1
  have hw2 := hw.2
  refine r_iload_n C dX4_beside_0 rfl (lv_at hl 0 rfl) ?_
  refine r_bipush C dX4_beside_1 (by decide) ?_
  refine r_idiv C dX4_beside_3 (by omega) (by omega) (by omega) (by omega) ?_
  refine r_istore_n C [(2, .int (iI (c / 8))), (0, .int (iI c)), (1, .int (iI w))] dX4_beside_4 rfl hl (by decide) rfl (fun ls hl => ?_)
  refine r_iload_n C dX4_beside_5 rfl (lv_at hl 1 rfl) ?_
  refine r_bipush C dX4_beside_6 (by decide) ?_
  refine r_irem C dX4_beside_8 (by omega) (by omega) (by omega) (by omega) ?_
  refine r_istore_n C [(3, .int (iI (c % 8))), (2, .int (iI (c / 8))), (0, .int (iI c)), (1, .int (iI w))] dX4_beside_9 rfl hl (by decide) rfl (fun ls hl => ?_)
  refine r_iload_n C dX4_beside_10 rfl (lv_at hl 3 rfl) ?_
  by_cases h1 : w = 0
  · refine r_tableIn C (0) h1 dX4_beside_11 (by decide) (by decide) rfl (tgt := 36) (by decide) ?_
    refine r_iload_n C dX4_beside_36 rfl (lv_at hl 1 rfl) ?_
    refine r_if_ne C (tgt := 44) dX4_beside_37 (by decide) (by exact ⟨by omega, by omega⟩) (fun h2 => ?_) (fun h2 => ?_)
    · refine r_iload_n C dX4_beside_44 rfl (lv_at hl 2 rfl) ?_
      refine r_bipush C dX4_beside_45 (by decide) ?_
      refine r_isub C dX4_beside_47 ?_
      exact r_iretR C (by simp [besd, h1, h2]) dX4_beside_48
    · refine r_iconst C dX4_beside_40 ?_
      refine r_goto C (tgt := 48) dX4_beside_41 (by decide) ?_
      exact r_iretR C (by simp [besd, h1, h2]) dX4_beside_48
  by_cases h3 : w = 1
  · refine r_tableIn C (1) h3 dX4_beside_11 (by decide) (by decide) rfl (tgt := 49) (by decide) ?_
    refine r_iload_n C dX4_beside_49 rfl (lv_at hl 0 rfl) ?_
    refine r_bipush C dX4_beside_50 (by decide) ?_
    refine r_icmp_ne C (tgt := 59) dX4_beside_52 (by decide) (by exact ⟨by omega, by omega⟩) ⟨by decide, by decide⟩ (fun h4 => ?_) (fun h4 => ?_)
    · refine r_iload_n C dX4_beside_59 rfl (lv_at hl 2 rfl) ?_
      refine r_iconst C dX4_beside_60 ?_
      refine r_iadd C dX4_beside_61 ?_
      exact r_iretR C (by simp [besd, h1, h3, h4]) dX4_beside_62
    · refine r_iconst C dX4_beside_55 ?_
      refine r_goto C (tgt := 62) dX4_beside_56 (by decide) ?_
      exact r_iretR C (by simp [besd, h1, h3, h4]) dX4_beside_62
  by_cases h5 : w = 2
  · refine r_tableIn C (2) h5 dX4_beside_11 (by decide) (by decide) rfl (tgt := 63) (by decide) ?_
    refine r_iload_n C dX4_beside_63 rfl (lv_at hl 1 rfl) ?_
    refine r_iconst C dX4_beside_64 ?_
    refine r_icmp_ne C (tgt := 72) dX4_beside_65 (by decide) (by exact ⟨by omega, by omega⟩) ⟨by decide, by decide⟩ (fun h6 => ?_) (fun h6 => ?_)
    · refine r_iload_n C dX4_beside_72 rfl (lv_at hl 2 rfl) ?_
      refine r_bipush C dX4_beside_73 (by decide) ?_
      refine r_iadd C dX4_beside_75 ?_
      exact r_iretR C (by simp [besd, h1, h3, h5, h6]) dX4_beside_76
    · refine r_iconst C dX4_beside_68 ?_
      refine r_goto C (tgt := 76) dX4_beside_69 (by decide) ?_
      exact r_iretR C (by simp [besd, h1, h3, h5, h6]) dX4_beside_76
  refine r_tableOut C dX4_beside_11 (by exact ⟨by omega, by omega⟩) (by omega) (tgt := 77) (by decide) ?_
  refine r_iload_n C dX4_beside_77 rfl (lv_at hl 0 rfl) ?_
  refine r_if_ne C (tgt := 85) dX4_beside_78 (by decide) (by exact ⟨by omega, by omega⟩) (fun h7 => ?_) (fun h7 => ?_)
  · refine r_iload_n C dX4_beside_85 rfl (lv_at hl 2 rfl) ?_
    refine r_iconst C dX4_beside_86 ?_
    refine r_isub C dX4_beside_87 ?_
    exact r_iretR C (by simp [besd, h1, h3, h5, h7]) dX4_beside_88
  · refine r_iconst C dX4_beside_81 ?_
    refine r_goto C (tgt := 88) dX4_beside_82 (by decide) ?_
    exact r_iretR C (by simp [besd, h1, h3, h5, h7]) dX4_beside_88
set_option maxHeartbeats 4000000 in
set_option maxRecDepth 100000 in
theorem cM_apart {x : Int} {y : Int} (hx : 0 ≤ x) (hx1 : x < 48) (hy : 0 ≤ y) (hy1 : y < 48) : MR l yX4_apart cX4_apart 4 (some .int) 0 0 D k [.int (iI x), .int (iI y)] [] (.int (iI (apt x y))) := by
  refine MR.mk RX4 rfl (by decide +kernel) (Nat.le_of_ble_eq_true rfl) (fun p e U m0 below meth cd ls C hP hl => ?_)
  have hl : lv_has ls 4 [(0, .int (iI x)), (1, .int (iI y))] := hl
  refine r_iload_n C dX4_apart_0 rfl (lv_at hl 0 rfl) ?_
  refine r_bipush C dX4_apart_1 (by decide) ?_
  refine r_idiv C dX4_apart_3 (by omega) (by omega) (by omega) (by omega) ?_
  refine r_iload_n C dX4_apart_4 rfl (lv_at hl 1 rfl) ?_
  refine r_bipush C dX4_apart_5 (by decide) ?_
  refine r_idiv C dX4_apart_7 (by omega) (by omega) (by omega) (by omega) ?_
  refine r_isub C dX4_apart_8 ?_
  refine r_istore_n C [(2, .int (iI ((x / 8) - (y / 8)))), (0, .int (iI x)), (1, .int (iI y))] dX4_apart_9 rfl hl (by decide) rfl (fun ls hl => ?_)
  refine r_iload_n C dX4_apart_10 rfl (lv_at hl 1 rfl) ?_
  refine r_bipush C dX4_apart_11 (by decide) ?_
  refine r_irem C dX4_apart_13 (by omega) (by omega) (by omega) (by omega) ?_
  refine r_iload_n C dX4_apart_14 rfl (lv_at hl 2 rfl) ?_
  refine r_bipush C dX4_apart_15 (by decide) ?_
  refine r_irem C dX4_apart_17 (by omega) (by omega) (by omega) (by omega) ?_
  refine r_isub C dX4_apart_18 ?_
  refine r_istore_n C [(3, .int (iI ((x % 8) - (y % 8)))), (2, .int (iI ((x / 8) - (y / 8)))), (0, .int (iI x)), (1, .int (iI y))] dX4_apart_19 rfl hl (by decide) rfl (fun ls hl => ?_)
  refine r_iload_n C dX4_apart_20 rfl (lv_at hl 1 rfl) ?_
  refine r_if_ge C (tgt := 29) dX4_apart_21 (by decide) (by exact ⟨by omega, by omega⟩) (fun h1 => ?_) (fun h1 => ?_)
  · refine r_iload_n C dX4_apart_29 rfl (lv_at hl 1 rfl) ?_
    refine r_iload_n C dX4_apart_30 rfl (lv_at hl 0 rfl) ?_
    refine r_if_ge C (tgt := 39) dX4_apart_31 (by decide) (by exact ⟨by omega, by omega⟩) (fun h2 => ?_) (fun h2 => ?_)
    · refine r_iload_n C dX4_apart_39 rfl (lv_at hl 0 rfl) ?_
      refine r_iadd C dX4_apart_40 ?_
      exact r_iretR C (by simp [apt, h1, h2]) dX4_apart_41
    · refine r_iload_n C dX4_apart_34 rfl (lv_at hl 0 rfl) ?_
      refine r_ineg C dX4_apart_35 ?_
      refine r_goto C (tgt := 40) dX4_apart_36 (by decide) ?_
      refine r_iadd C dX4_apart_40 ?_
      exact r_iretR C (by simp [apt, h1, h2]) dX4_apart_41
  · refine r_iload_n C dX4_apart_24 rfl (lv_at hl 1 rfl) ?_
    refine r_ineg C dX4_apart_25 ?_
    refine r_goto C (tgt := 30) dX4_apart_26 (by decide) ?_
    refine r_iload_n C dX4_apart_30 rfl (lv_at hl 0 rfl) ?_
    refine r_if_ge C (tgt := 39) dX4_apart_31 (by decide) (by exact ⟨by omega, by omega⟩) (fun h3 => ?_) (fun h3 => ?_)
    · refine r_iload_n C dX4_apart_39 rfl (lv_at hl 0 rfl) ?_
      refine r_iadd C dX4_apart_40 ?_
      exact r_iretR C (by simp [apt, h1, h3]) dX4_apart_41
    · refine r_iload_n C dX4_apart_34 rfl (lv_at hl 0 rfl) ?_
      refine r_ineg C dX4_apart_35 ?_
      refine r_goto C (tgt := 40) dX4_apart_36 (by decide) ?_
      refine r_iadd C dX4_apart_40 ?_
      exact r_iretR C (by simp [apt, h1, h3]) dX4_apart_41
set_option maxHeartbeats 4000000 in
set_option maxRecDepth 100000 in
theorem cM_isUntrue {c : Int} (hc : 0 ≤ c) (hc1 : c < 48) (hs : Rg s) : MR l yX4_isUntrue cX4_isUntrue 2 (some .boolean) 0 0 D k [.ref (a 0), .int (iI c)] (wM a k s kp ot sd st sp tp bi si nu mo ik dl tl ta fr to va iw) (.int (iB (untrue s c))) := by
  refine MR.mk RX4 rfl (by decide +kernel) (Nat.le_of_ble_eq_true rfl) (fun p e U m0 below meth cd ls C hP hl => ?_)
  have hl : lv_has ls 2 [(0, .ref (a 0)), (1, .int (iI c))] := hl
  refine r_aload_n C dX4_isUntrue_0 rfl (lv_at hl 0 rfl) ?_
  refine g_X4_7 C hP 0 rfl rfl dX4_isUntrue_1 ?_
  refine r_iconst C dX4_isUntrue_4 ?_
  refine r_iload_n C dX4_isUntrue_5 rfl (lv_at hl 1 rfl) ?_
  refine r_iadd C dX4_isUntrue_6 ?_
  refine r_iald C hP 1 rfl dX4_isUntrue_7 (by omega) (by omega) (by decide) ?_
  refine r_aload_n C dX4_isUntrue_8 rfl (lv_at hl 0 rfl) ?_
  refine g_X4_7 C hP 0 rfl rfl dX4_isUntrue_9 ?_
  refine r_bipush C dX4_isUntrue_12 (by decide) ?_
  refine r_iload_n C dX4_isUntrue_14 rfl (lv_at hl 1 rfl) ?_
  refine r_iadd C dX4_isUntrue_15 ?_
  refine r_iald C hP 1 rfl dX4_isUntrue_16 (by omega) (by omega) (by decide) ?_
  refine r_icmp_eq C (tgt := 24) dX4_isUntrue_17 (by decide) (by have := hs (3 + c) (by omega); exact ⟨by omega, by omega⟩) (by have := hs (51 + c) (by omega); exact ⟨by omega, by omega⟩) (fun h1 => ?_) (fun h1 => ?_)
  · refine r_iconst C dX4_isUntrue_24 ?_
    exact r_zretR C (iB0 (fun q => q h1)) dX4_isUntrue_25
  · refine r_iconst C dX4_isUntrue_20 ?_
    refine r_goto C (tgt := 25) dX4_isUntrue_21 (by decide) ?_
    exact r_zretR C (iB1 h1) dX4_isUntrue_25
end MODEL
end
