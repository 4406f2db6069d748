section
-- ===== PART A: goes FIRST, ahead of the names: the tables' words, and 'selects' of the private methods out of them =====
/-- a private method of a class that the tables say can be made, by its rows of tables_1 -/
def lw_okq (q : MethodName × Nat) : Prop := (q.1.cls ≠ "java/lang/invoke/MethodHandle" ∧ q.1.cls ≠ "java/lang/invoke/VarHandle") ∧ Cond.instantiable q.1.cls q.2 ∈ tables_1 ∧ Cond.privateMethod q.1 ∈ tables_1 ∧ Cond.instanceMethod q.1 ∈ tables_1
theorem lw_p0 : lw_okq (⟨"ColdChain", "noteState", "()V"⟩, 7) := ⟨⟨by decide +kernel, by decide +kernel⟩, List.mem_of_getElem? (i := 12) (by decide +kernel), List.mem_of_getElem? (i := 251) (by decide +kernel), List.mem_of_getElem? (i := 252) (by decide +kernel)⟩
theorem lw_p1 : lw_okq (⟨"ColdChain", "kept", "(I)I"⟩, 7) := ⟨⟨by decide +kernel, by decide +kernel⟩, List.mem_of_getElem? (i := 12) (by decide +kernel), List.mem_of_getElem? (i := 291) (by decide +kernel), List.mem_of_getElem? (i := 292) (by decide +kernel)⟩
theorem lw_p2 : lw_okq (⟨"ColdChain$State", "palletsInZone", "(II)I"⟩, 8) := ⟨⟨by decide +kernel, by decide +kernel⟩, List.mem_of_getElem? (i := 20) (by decide +kernel), List.mem_of_getElem? (i := 362) (by decide +kernel), List.mem_of_getElem? (i := 363) (by decide +kernel)⟩
theorem lw_p3 : lw_okq (⟨"ColdChain$Van", "isOdd", "(II)Z"⟩, 5) := ⟨⟨by decide +kernel, by decide +kernel⟩, List.mem_of_getElem? (i := 29) (by decide +kernel), List.mem_of_getElem? (i := 425) (by decide +kernel), List.mem_of_getElem? (i := 426) (by decide +kernel)⟩
theorem lw_p4 : lw_okq (⟨"ColdChain$State", "shareByValues", "(II)V"⟩, 8) := ⟨⟨by decide +kernel, by decide +kernel⟩, List.mem_of_getElem? (i := 20) (by decide +kernel), List.mem_of_getElem? (i := 483) (by decide +kernel), List.mem_of_getElem? (i := 484) (by decide +kernel)⟩
theorem lw_p5 : lw_okq (⟨"ColdChain$State", "shareRest", "(II)I"⟩, 8) := ⟨⟨by decide +kernel, by decide +kernel⟩, List.mem_of_getElem? (i := 20) (by decide +kernel), List.mem_of_getElem? (i := 487) (by decide +kernel), List.mem_of_getElem? (i := 488) (by decide +kernel)⟩
theorem lw_p6 : lw_okq (⟨"ColdChain$Script", "skipSpaces", "()V"⟩, 7) := ⟨⟨by decide +kernel, by decide +kernel⟩, List.mem_of_getElem? (i := 191) (by decide +kernel), List.mem_of_getElem? (i := 515) (by decide +kernel), List.mem_of_getElem? (i := 516) (by decide +kernel)⟩
theorem lw_p7 : lw_okq (⟨"ColdChain$Script", "readCommand", "(I)Z"⟩, 7) := ⟨⟨by decide +kernel, by decide +kernel⟩, List.mem_of_getElem? (i := 191) (by decide +kernel), List.mem_of_getElem? (i := 519) (by decide +kernel), List.mem_of_getElem? (i := 520) (by decide +kernel)⟩
theorem lw_p8 : lw_okq (⟨"ColdChain$Script", "readNumber", "()I"⟩, 7) := ⟨⟨by decide +kernel, by decide +kernel⟩, List.mem_of_getElem? (i := 191) (by decide +kernel), List.mem_of_getElem? (i := 526) (by decide +kernel), List.mem_of_getElem? (i := 527) (by decide +kernel)⟩
theorem lw_p9 : lw_okq (⟨"ColdChain$Script", "readSign", "(C)Z"⟩, 7) := ⟨⟨by decide +kernel, by decide +kernel⟩, List.mem_of_getElem? (i := 191) (by decide +kernel), List.mem_of_getElem? (i := 533) (by decide +kernel), List.mem_of_getElem? (i := 534) (by decide +kernel)⟩
theorem lw_p10 : lw_okq (⟨"ColdChain", "runCommand", "(I)I"⟩, 7) := ⟨⟨by decide +kernel, by decide +kernel⟩, List.mem_of_getElem? (i := 12) (by decide +kernel), List.mem_of_getElem? (i := 538) (by decide +kernel), List.mem_of_getElem? (i := 539) (by decide +kernel)⟩
theorem lw_p11 : lw_okq (⟨"ColdChain", "mayBeOpen", "(II)Z"⟩, 7) := ⟨⟨by decide +kernel, by decide +kernel⟩, List.mem_of_getElem? (i := 12) (by decide +kernel), List.mem_of_getElem? (i := 617) (by decide +kernel), List.mem_of_getElem? (i := 618) (by decide +kernel)⟩
theorem lw_p12 : lw_okq (⟨"ColdChainModel", "hold", "()V"⟩, 12) := ⟨⟨by decide +kernel, by decide +kernel⟩, List.mem_of_getElem? (i := 629) (by decide +kernel), List.mem_of_getElem? (i := 684) (by decide +kernel), List.mem_of_getElem? (i := 685) (by decide +kernel)⟩
theorem lw_p13 : lw_okq (⟨"ColdChainModel", "ends", "(I)I"⟩, 12) := ⟨⟨by decide +kernel, by decide +kernel⟩, List.mem_of_getElem? (i := 629) (by decide +kernel), List.mem_of_getElem? (i := 694) (by decide +kernel), List.mem_of_getElem? (i := 695) (by decide +kernel)⟩
theorem lw_p14 : lw_okq (⟨"ColdChainModel", "isVan", "(I)Z"⟩, 12) := ⟨⟨by decide +kernel, by decide +kernel⟩, List.mem_of_getElem? (i := 629) (by decide +kernel), List.mem_of_getElem? (i := 709) (by decide +kernel), List.mem_of_getElem? (i := 710) (by decide +kernel)⟩
theorem lw_p15 : lw_okq (⟨"ColdChainModel", "of", "(II)I"⟩, 12) := ⟨⟨by decide +kernel, by decide +kernel⟩, List.mem_of_getElem? (i := 629) (by decide +kernel), List.mem_of_getElem? (i := 713) (by decide +kernel), List.mem_of_getElem? (i := 714) (by decide +kernel)⟩
def lw_privs_1 : List (MethodName × Nat) := [(⟨"ColdChain", "noteState", "()V"⟩, 7), (⟨"ColdChain", "kept", "(I)I"⟩, 7), (⟨"ColdChain$State", "palletsInZone", "(II)I"⟩, 8), (⟨"ColdChain$Van", "isOdd", "(II)Z"⟩, 5), (⟨"ColdChain$State", "shareByValues", "(II)V"⟩, 8), (⟨"ColdChain$State", "shareRest", "(II)I"⟩, 8), (⟨"ColdChain$Script", "skipSpaces", "()V"⟩, 7), (⟨"ColdChain$Script", "readCommand", "(I)Z"⟩, 7), (⟨"ColdChain$Script", "readNumber", "()I"⟩, 7), (⟨"ColdChain$Script", "readSign", "(C)Z"⟩, 7), (⟨"ColdChain", "runCommand", "(I)I"⟩, 7), (⟨"ColdChain", "mayBeOpen", "(II)Z"⟩, 7), (⟨"ColdChainModel", "hold", "()V"⟩, 12), (⟨"ColdChainModel", "ends", "(I)I"⟩, 12), (⟨"ColdChainModel", "isVan", "(I)Z"⟩, 12), (⟨"ColdChainModel", "of", "(II)I"⟩, 12)]
theorem lw_r1 : ∀ q ∈ lw_privs_1, lw_okq q := List.forall_mem_cons.mpr ⟨lw_p0, List.forall_mem_cons.mpr ⟨lw_p1, List.forall_mem_cons.mpr ⟨lw_p2, List.forall_mem_cons.mpr ⟨lw_p3, List.forall_mem_cons.mpr ⟨lw_p4, List.forall_mem_cons.mpr ⟨lw_p5, List.forall_mem_cons.mpr ⟨lw_p6, List.forall_mem_cons.mpr ⟨lw_p7, List.forall_mem_cons.mpr ⟨lw_p8, List.forall_mem_cons.mpr ⟨lw_p9, List.forall_mem_cons.mpr ⟨lw_p10, List.forall_mem_cons.mpr ⟨lw_p11, List.forall_mem_cons.mpr ⟨lw_p12, List.forall_mem_cons.mpr ⟨lw_p13, List.forall_mem_cons.mpr ⟨lw_p14, List.forall_mem_cons.mpr ⟨lw_p15, fun _ h => absurd h List.not_mem_nil⟩⟩⟩⟩⟩⟩⟩⟩⟩⟩⟩⟩⟩⟩⟩⟩
theorem lw_p16 : lw_okq (⟨"ColdChainModel", "at", "(III)I"⟩, 12) := ⟨⟨by decide +kernel, by decide +kernel⟩, List.mem_of_getElem? (i := 629) (by decide +kernel), List.mem_of_getElem? (i := 727) (by decide +kernel), List.mem_of_getElem? (i := 728) (by decide +kernel)⟩
theorem lw_p17 : lw_okq (⟨"ColdChainModel", "repairs", "(II)I"⟩, 12) := ⟨⟨by decide +kernel, by decide +kernel⟩, List.mem_of_getElem? (i := 629) (by decide +kernel), List.mem_of_getElem? (i := 735) (by decide +kernel), List.mem_of_getElem? (i := 736) (by decide +kernel)⟩
theorem lw_p18 : lw_okq (⟨"ColdChainModel", "done", "(I)I"⟩, 12) := ⟨⟨by decide +kernel, by decide +kernel⟩, List.mem_of_getElem? (i := 629) (by decide +kernel), List.mem_of_getElem? (i := 739) (by decide +kernel), List.mem_of_getElem? (i := 740) (by decide +kernel)⟩
theorem lw_p19 : lw_okq (⟨"ColdChainModel", "manyIn", "(II)I"⟩, 12) := ⟨⟨by decide +kernel, by decide +kernel⟩, List.mem_of_getElem? (i := 629) (by decide +kernel), List.mem_of_getElem? (i := 748) (by decide +kernel), List.mem_of_getElem? (i := 749) (by decide +kernel)⟩
theorem lw_p20 : lw_okq (⟨"ColdChainModel", "its", "(II)I"⟩, 12) := ⟨⟨by decide +kernel, by decide +kernel⟩, List.mem_of_getElem? (i := 629) (by decide +kernel), List.mem_of_getElem? (i := 752) (by decide +kernel), List.mem_of_getElem? (i := 753) (by decide +kernel)⟩
theorem lw_p21 : lw_okq (⟨"ColdChainModel", "doors", "(II)I"⟩, 12) := ⟨⟨by decide +kernel, by decide +kernel⟩, List.mem_of_getElem? (i := 629) (by decide +kernel), List.mem_of_getElem? (i := 763) (by decide +kernel), List.mem_of_getElem? (i := 764) (by decide +kernel)⟩
theorem lw_p22 : lw_okq (⟨"ColdChainModel", "inVan", "(I)I"⟩, 12) := ⟨⟨by decide +kernel, by decide +kernel⟩, List.mem_of_getElem? (i := 629) (by decide +kernel), List.mem_of_getElem? (i := 767) (by decide +kernel), List.mem_of_getElem? (i := 768) (by decide +kernel)⟩
theorem lw_p23 : lw_okq (⟨"ColdChainModel", "passes", "(I)I"⟩, 12) := ⟨⟨by decide +kernel, by decide +kernel⟩, List.mem_of_getElem? (i := 629) (by decide +kernel), List.mem_of_getElem? (i := 778) (by decide +kernel), List.mem_of_getElem? (i := 779) (by decide +kernel)⟩
theorem lw_p24 : lw_okq (⟨"ColdChainModel", "minute", "()I"⟩, 12) := ⟨⟨by decide +kernel, by decide +kernel⟩, List.mem_of_getElem? (i := 629) (by decide +kernel), List.mem_of_getElem? (i := 782) (by decide +kernel), List.mem_of_getElem? (i := 783) (by decide +kernel)⟩
theorem lw_p25 : lw_okq (⟨"ColdChainModel", "heats", "(I)V"⟩, 12) := ⟨⟨by decide +kernel, by decide +kernel⟩, List.mem_of_getElem? (i := 629) (by decide +kernel), List.mem_of_getElem? (i := 786) (by decide +kernel), List.mem_of_getElem? (i := 787) (by decide +kernel)⟩
theorem lw_p26 : lw_okq (⟨"ColdChainModel", "reads", "(I)I"⟩, 12) := ⟨⟨by decide +kernel, by decide +kernel⟩, List.mem_of_getElem? (i := 629) (by decide +kernel), List.mem_of_getElem? (i := 790) (by decide +kernel), List.mem_of_getElem? (i := 791) (by decide +kernel)⟩
theorem lw_p27 : lw_okq (⟨"ColdChainModel", "isOdd", "(II)Z"⟩, 12) := ⟨⟨by decide +kernel, by decide +kernel⟩, List.mem_of_getElem? (i := 629) (by decide +kernel), List.mem_of_getElem? (i := 794) (by decide +kernel), List.mem_of_getElem? (i := 795) (by decide +kernel)⟩
theorem lw_p28 : lw_okq (⟨"ColdChainModel", "reading", "(II)I"⟩, 12) := ⟨⟨by decide +kernel, by decide +kernel⟩, List.mem_of_getElem? (i := 629) (by decide +kernel), List.mem_of_getElem? (i := 798) (by decide +kernel), List.mem_of_getElem? (i := 799) (by decide +kernel)⟩
theorem lw_p29 : lw_okq (⟨"ColdChainModel", "warms", "(I)V"⟩, 12) := ⟨⟨by decide +kernel, by decide +kernel⟩, List.mem_of_getElem? (i := 629) (by decide +kernel), List.mem_of_getElem? (i := 805) (by decide +kernel), List.mem_of_getElem? (i := 806) (by decide +kernel)⟩
theorem lw_p30 : lw_okq (⟨"ColdChainModel", "told", "(II)I"⟩, 12) := ⟨⟨by decide +kernel, by decide +kernel⟩, List.mem_of_getElem? (i := 629) (by decide +kernel), List.mem_of_getElem? (i := 809) (by decide +kernel), List.mem_of_getElem? (i := 810) (by decide +kernel)⟩
theorem lw_p31 : lw_okq (⟨"ColdChainModel", "delivers", "(I)I"⟩, 12) := ⟨⟨by decide +kernel, by decide +kernel⟩, List.mem_of_getElem? (i := 629) (by decide +kernel), List.mem_of_getElem? (i := 817) (by decide +kernel), List.mem_of_getElem? (i := 818) (by decide +kernel)⟩
def lw_privs_2 : List (MethodName × Nat) := [(⟨"ColdChainModel", "at", "(III)I"⟩, 12), (⟨"ColdChainModel", "repairs", "(II)I"⟩, 12), (⟨"ColdChainModel", "done", "(I)I"⟩, 12), (⟨"ColdChainModel", "manyIn", "(II)I"⟩, 12), (⟨"ColdChainModel", "its", "(II)I"⟩, 12), (⟨"ColdChainModel", "doors", "(II)I"⟩, 12), (⟨"ColdChainModel", "inVan", "(I)I"⟩, 12), (⟨"ColdChainModel", "passes", "(I)I"⟩, 12), (⟨"ColdChainModel", "minute", "()I"⟩, 12), (⟨"ColdChainModel", "heats", "(I)V"⟩, 12), (⟨"ColdChainModel", "reads", "(I)I"⟩, 12), (⟨"ColdChainModel", "isOdd", "(II)Z"⟩, 12), (⟨"ColdChainModel", "reading", "(II)I"⟩, 12), (⟨"ColdChainModel", "warms", "(I)V"⟩, 12), (⟨"ColdChainModel", "told", "(II)I"⟩, 12), (⟨"ColdChainModel", "delivers", "(I)I"⟩, 12)]
theorem lw_r2 : ∀ q ∈ lw_privs_2, lw_okq q := List.forall_mem_cons.mpr ⟨lw_p16, List.forall_mem_cons.mpr ⟨lw_p17, List.forall_mem_cons.mpr ⟨lw_p18, List.forall_mem_cons.mpr ⟨lw_p19, List.forall_mem_cons.mpr ⟨lw_p20, List.forall_mem_cons.mpr ⟨lw_p21, List.forall_mem_cons.mpr ⟨lw_p22, List.forall_mem_cons.mpr ⟨lw_p23, List.forall_mem_cons.mpr ⟨lw_p24, List.forall_mem_cons.mpr ⟨lw_p25, List.forall_mem_cons.mpr ⟨lw_p26, List.forall_mem_cons.mpr ⟨lw_p27, List.forall_mem_cons.mpr ⟨lw_p28, List.forall_mem_cons.mpr ⟨lw_p29, List.forall_mem_cons.mpr ⟨lw_p30, List.forall_mem_cons.mpr ⟨lw_p31, fun _ h => absurd h List.not_mem_nil⟩⟩⟩⟩⟩⟩⟩⟩⟩⟩⟩⟩⟩⟩⟩⟩
theorem lw_p32 : lw_okq (⟨"ColdChainModel", "isPallet", "(I)Z"⟩, 12) := ⟨⟨by decide +kernel, by decide +kernel⟩, List.mem_of_getElem? (i := 629) (by decide +kernel), List.mem_of_getElem? (i := 821) (by decide +kernel), List.mem_of_getElem? (i := 822) (by decide +kernel)⟩
theorem lw_p33 : lw_okq (⟨"ColdChainModel", "isScript", "()Z"⟩, 12) := ⟨⟨by decide +kernel, by decide +kernel⟩, List.mem_of_getElem? (i := 629) (by decide +kernel), List.mem_of_getElem? (i := 841) (by decide +kernel), List.mem_of_getElem? (i := 842) (by decide +kernel)⟩
theorem lw_p34 : lw_okq (⟨"ColdChainModel", "skips", "()V"⟩, 12) := ⟨⟨by decide +kernel, by decide +kernel⟩, List.mem_of_getElem? (i := 629) (by decide +kernel), List.mem_of_getElem? (i := 845) (by decide +kernel), List.mem_of_getElem? (i := 846) (by decide +kernel)⟩
theorem lw_p35 : lw_okq (⟨"ColdChainModel", "isAt", "(II)Z"⟩, 12) := ⟨⟨by decide +kernel, by decide +kernel⟩, List.mem_of_getElem? (i := 629) (by decide +kernel), List.mem_of_getElem? (i := 849) (by decide +kernel), List.mem_of_getElem? (i := 850) (by decide +kernel)⟩
theorem lw_p36 : lw_okq (⟨"ColdChainModel", "isCommand", "()Z"⟩, 12) := ⟨⟨by decide +kernel, by decide +kernel⟩, List.mem_of_getElem? (i := 629) (by decide +kernel), List.mem_of_getElem? (i := 853) (by decide +kernel), List.mem_of_getElem? (i := 854) (by decide +kernel)⟩
theorem lw_p37 : lw_okq (⟨"ColdChainModel", "isFigure", "(I)Z"⟩, 12) := ⟨⟨by decide +kernel, by decide +kernel⟩, List.mem_of_getElem? (i := 629) (by decide +kernel), List.mem_of_getElem? (i := 857) (by decide +kernel), List.mem_of_getElem? (i := 858) (by decide +kernel)⟩
theorem lw_p38 : lw_okq (⟨"ColdChainModel", "takes", "(I)Z"⟩, 12) := ⟨⟨by decide +kernel, by decide +kernel⟩, List.mem_of_getElem? (i := 629) (by decide +kernel), List.mem_of_getElem? (i := 861) (by decide +kernel), List.mem_of_getElem? (i := 862) (by decide +kernel)⟩
theorem lw_p39 : lw_okq (⟨"ColdChainModel", "does", "()I"⟩, 12) := ⟨⟨by decide +kernel, by decide +kernel⟩, List.mem_of_getElem? (i := 629) (by decide +kernel), List.mem_of_getElem? (i := 866) (by decide +kernel), List.mem_of_getElem? (i := 867) (by decide +kernel)⟩
theorem lw_p40 : lw_okq (⟨"ColdChainModel", "cause", "(I)I"⟩, 12) := ⟨⟨by decide +kernel, by decide +kernel⟩, List.mem_of_getElem? (i := 629) (by decide +kernel), List.mem_of_getElem? (i := 887) (by decide +kernel), List.mem_of_getElem? (i := 888) (by decide +kernel)⟩
theorem lw_p41 : lw_okq (⟨"ColdChainModel", "claim", "(II)I"⟩, 12) := ⟨⟨by decide +kernel, by decide +kernel⟩, List.mem_of_getElem? (i := 629) (by decide +kernel), List.mem_of_getElem? (i := 895) (by decide +kernel), List.mem_of_getElem? (i := 896) (by decide +kernel)⟩
theorem lw_p42 : lw_okq (⟨"ColdChainModel", "entry", "(IIII)I"⟩, 12) := ⟨⟨by decide +kernel, by decide +kernel⟩, List.mem_of_getElem? (i := 629) (by decide +kernel), List.mem_of_getElem? (i := 903) (by decide +kernel), List.mem_of_getElem? (i := 904) (by decide +kernel)⟩
theorem lw_p43 : lw_okq (⟨"ColdChainModel", "mayBeOpen", "(II)Z"⟩, 12) := ⟨⟨by decide +kernel, by decide +kernel⟩, List.mem_of_getElem? (i := 629) (by decide +kernel), List.mem_of_getElem? (i := 920) (by decide +kernel), List.mem_of_getElem? (i := 921) (by decide +kernel)⟩
def lw_privs_3 : List (MethodName × Nat) := [(⟨"ColdChainModel", "isPallet", "(I)Z"⟩, 12), (⟨"ColdChainModel", "isScript", "()Z"⟩, 12), (⟨"ColdChainModel", "skips", "()V"⟩, 12), (⟨"ColdChainModel", "isAt", "(II)Z"⟩, 12), (⟨"ColdChainModel", "isCommand", "()Z"⟩, 12), (⟨"ColdChainModel", "isFigure", "(I)Z"⟩, 12), (⟨"ColdChainModel", "takes", "(I)Z"⟩, 12), (⟨"ColdChainModel", "does", "()I"⟩, 12), (⟨"ColdChainModel", "cause", "(I)I"⟩, 12), (⟨"ColdChainModel", "claim", "(II)I"⟩, 12), (⟨"ColdChainModel", "entry", "(IIII)I"⟩, 12), (⟨"ColdChainModel", "mayBeOpen", "(II)Z"⟩, 12)]
theorem lw_r3 : ∀ q ∈ lw_privs_3, lw_okq q := List.forall_mem_cons.mpr ⟨lw_p32, List.forall_mem_cons.mpr ⟨lw_p33, List.forall_mem_cons.mpr ⟨lw_p34, List.forall_mem_cons.mpr ⟨lw_p35, List.forall_mem_cons.mpr ⟨lw_p36, List.forall_mem_cons.mpr ⟨lw_p37, List.forall_mem_cons.mpr ⟨lw_p38, List.forall_mem_cons.mpr ⟨lw_p39, List.forall_mem_cons.mpr ⟨lw_p40, List.forall_mem_cons.mpr ⟨lw_p41, List.forall_mem_cons.mpr ⟨lw_p42, List.forall_mem_cons.mpr ⟨lw_p43, fun _ h => absurd h List.not_mem_nil⟩⟩⟩⟩⟩⟩⟩⟩⟩⟩⟩⟩
def lw_privs : List (MethodName × Nat) := lw_privs_1 ++ (lw_privs_2 ++ (lw_privs_3))
def lw_tbl : List Cond := k2_sels lw_privs ++ tables_1
theorem lw_privs_ok : ∀ q ∈ lw_privs, lw_okq q := by
  show ∀ q ∈ lw_privs_1 ++ (lw_privs_2 ++ (lw_privs_3)), lw_okq q
  exact List.forall_mem_append.mpr ⟨lw_r1, List.forall_mem_append.mpr ⟨lw_r2, lw_r3⟩⟩
/-- words that hold in every warmer state -/
def wOK : Cond → Bool
  | .fieldLinkNest .. => true
  | .methodLinkNest .. => true
  | .arrayOver (.object _) => true
  | .arrayOver (.array _) => true
  | w => goodWord w
def RX0 : String := "ColdChain$History"
def TX0 : u_T := fun k => match k with
  | 0 => ("ColdChain$History", "temperatures", "[[I", true)
  | _ => ("ColdChain$History", "toldOnes", "[[I", true)
def tyX0 : Nat → FieldType := fun k => match k with
  | 0 => .array (.array .int)
  | _ => .array (.array .int)
abbrev wsX00 : List Cond := u_ws RX0 TX0 2
set_option maxRecDepth 100000 in
theorem inX0 : ∀ w ∈ u_ws RX0 TX0 2, w ∈ lw_tbl := by decide +kernel
theorem nmX0 : ∀ a, a < 2 → ∀ b, b < 2 → a ≠ b → (TX0 a).2.1 ≠ (TX0 b).2.1 := by decide +kernel
theorem tyX0_ok : ∀ k, k < 2 → parseFieldDescriptor (TX0 k).2.2.1 = some (tyX0 k) := by decide +kernel
abbrev cX0_init : ByteArray := prog_2_method_1_code
def yX0_init : MethodName := ⟨RX0, "<init>", "()V"⟩
abbrev cX0_write : ByteArray := prog_2_method_2_code
def yX0_write : MethodName := ⟨RX0, "write", "(IILColdChain$Van;)V"⟩
abbrev cX0_row : ByteArray := prog_2_method_3_code
def yX0_row : MethodName := ⟨RX0, "row", "(III)[I"⟩
def RX1 : String := "ColdChain$Pallet"
def TX1 : u_T := fun k => match k with
  | 0 => ("ColdChain$Pallet", "van", "I", false)
  | 1 => ("ColdChain$Pallet", "zone", "I", false)
  | 2 => ("ColdChain$Pallet", "limit", "I", false)
  | 3 => ("ColdChain$Pallet", "allowance", "I", false)
  | 4 => ("ColdChain$Pallet", "value", "I", false)
  | 5 => ("ColdChain$Pallet", "state", "I", false)
  | 6 => ("ColdChain$Pallet", "openMinutes", "I", false)
  | 7 => ("ColdChain$Pallet", "closedMinutes", "I", false)
  | 8 => ("ColdChain$Pallet", "toldMinutes", "I", false)
  | _ => ("ColdChain$Pallet", "part", "I", false)
def tyX1 : Nat → FieldType := fun k => match k with
  | 0 => .int
  | 1 => .int
  | 2 => .int
  | 3 => .int
  | 4 => .int
  | 5 => .int
  | 6 => .int
  | 7 => .int
  | 8 => .int
  | _ => .int
abbrev wsX10 : List Cond := u_ws RX1 TX1 10
set_option maxRecDepth 100000 in
theorem inX1 : ∀ w ∈ u_ws RX1 TX1 10, w ∈ lw_tbl := by decide +kernel
theorem nmX1 : ∀ a, a < 10 → ∀ b, b < 10 → a ≠ b → (TX1 a).2.1 ≠ (TX1 b).2.1 := by decide +kernel
theorem tyX1_ok : ∀ k, k < 10 → parseFieldDescriptor (TX1 k).2.2.1 = some (tyX1 k) := by decide +kernel
abbrev cX1_init : ByteArray := prog_3_method_1_code
def yX1_init : MethodName := ⟨RX1, "<init>", "()V"⟩
abbrev cX1_copyFrom : ByteArray := prog_3_method_2_code
def yX1_copyFrom : MethodName := ⟨RX1, "copyFrom", "(LColdChain$Pallet;)V"⟩
abbrev cX1_start : ByteArray := prog_3_method_3_code
def yX1_start : MethodName := ⟨RX1, "start", "(IIIII)V"⟩
abbrev cX1_isIn : ByteArray := prog_3_method_4_code
def yX1_isIn : MethodName := ⟨RX1, "isIn", "(I)Z"⟩
abbrev cX1_isOverdue : ByteArray := prog_3_method_5_code
def yX1_isOverdue : MethodName := ⟨RX1, "isOverdue", "()Z"⟩
abbrev cX1_addMinute : ByteArray := prog_3_method_6_code
def yX1_addMinute : MethodName := ⟨RX1, "addMinute", "(LColdChain$Van;)V"⟩
abbrev cX1_wasRejected : ByteArray := prog_3_method_7_code
def yX1_wasRejected : MethodName := ⟨RX1, "wasRejected", "()Z"⟩
abbrev cX1_cause : ByteArray := prog_3_method_8_code
def yX1_cause : MethodName := ⟨RX1, "cause", "()I"⟩
abbrev cX1_claim : ByteArray := prog_3_method_9_code
def yX1_claim : MethodName := ⟨RX1, "claim", "()I"⟩
abbrev cX1_claimBy : ByteArray := prog_3_method_10_code
def yX1_claimBy : MethodName := ⟨RX1, "claimBy", "(I)I"⟩
abbrev cX1_property : ByteArray := prog_3_method_11_code
def yX1_property : MethodName := ⟨RX1, "property", "(I)I"⟩
def RX2 : String := "ColdChain$Script"
def TX2 : u_T := fun k => match k with
  | 0 => ("ColdChain$Script", "text", "[C", true)
  | 1 => ("ColdChain$Script", "length", "I", false)
  | 2 => ("ColdChain$Script", "at", "I", false)
  | 3 => ("ColdChain$Script", "letters", "[I", true)
  | 4 => ("ColdChain$Script", "firsts", "[I", true)
  | 5 => ("ColdChain$Script", "seconds", "[I", true)
  | _ => ("ColdChain$Script", "commandCount", "I", false)
def tyX2 : Nat → FieldType := fun k => match k with
  | 0 => .array .char
  | 1 => .int
  | 2 => .int
  | 3 => .array .int
  | 4 => .array .int
  | 5 => .array .int
  | _ => .int
abbrev wsX20 : List Cond := u_ws RX2 TX2 7
set_option maxRecDepth 100000 in
theorem inX2 : ∀ w ∈ u_ws RX2 TX2 7, w ∈ lw_tbl := by decide +kernel
theorem nmX2 : ∀ a, a < 7 → ∀ b, b < 7 → a ≠ b → (TX2 a).2.1 ≠ (TX2 b).2.1 := by decide +kernel
theorem tyX2_ok : ∀ k, k < 7 → parseFieldDescriptor (TX2 k).2.2.1 = some (tyX2 k) := by decide +kernel
abbrev cX2_init : ByteArray := prog_4_method_1_code
def yX2_init : MethodName := ⟨RX2, "<init>", "()V"⟩
abbrev cX2_append : ByteArray := prog_4_method_2_code
def yX2_append : MethodName := ⟨RX2, "append", "(I)I"⟩
abbrev cX2_read : ByteArray := prog_4_method_3_code
def yX2_read : MethodName := ⟨RX2, "read", "()I"⟩
abbrev cX2_readCommand : ByteArray := prog_4_method_4_code
def yX2_readCommand : MethodName := ⟨RX2, "readCommand", "(I)Z"⟩
abbrev cX2_readNumber : ByteArray := prog_4_method_5_code
def yX2_readNumber : MethodName := ⟨RX2, "readNumber", "()I"⟩
abbrev cX2_readSign : ByteArray := prog_4_method_6_code
def yX2_readSign : MethodName := ⟨RX2, "readSign", "(C)Z"⟩
abbrev cX2_skipSpaces : ByteArray := prog_4_method_7_code
def yX2_skipSpaces : MethodName := ⟨RX2, "skipSpaces", "()V"⟩
abbrev cX2_isLetter : ByteArray := prog_4_method_8_code
def yX2_isLetter : MethodName := ⟨RX2, "isLetter", "(C)Z"⟩
abbrev cX2_isDigit : ByteArray := prog_4_method_9_code
def yX2_isDigit : MethodName := ⟨RX2, "isDigit", "(C)Z"⟩
def RX3 : String := "ColdChain$State"
def TX3 : u_T := fun k => match k with
  | 0 => ("ColdChain$State", "time", "I", false)
  | 1 => ("ColdChain$State", "outside", "I", false)
  | 2 => ("ColdChain$State", "difference", "I", false)
  | 3 => ("ColdChain$State", "patience", "I", false)
  | 4 => ("ColdChain$State", "vanCount", "I", false)
  | 5 => ("ColdChain$State", "palletCount", "I", false)
  | 6 => ("ColdChain$State", "vans", "[LColdChain$Van;", true)
  | _ => ("ColdChain$State", "pallets", "[LColdChain$Pallet;", true)
def tyX3 : Nat → FieldType := fun k => match k with
  | 0 => .int
  | 1 => .int
  | 2 => .int
  | 3 => .int
  | 4 => .int
  | 5 => .int
  | 6 => .array (.object "ColdChain$Van")
  | _ => .array (.object "ColdChain$Pallet")
abbrev wsX30 : List Cond := u_ws RX3 TX3 8
set_option maxRecDepth 100000 in
theorem inX3 : ∀ w ∈ u_ws RX3 TX3 8, w ∈ lw_tbl := by decide +kernel
theorem nmX3 : ∀ a, a < 8 → ∀ b, b < 8 → a ≠ b → (TX3 a).2.1 ≠ (TX3 b).2.1 := by decide +kernel
theorem tyX3_ok : ∀ k, k < 8 → parseFieldDescriptor (TX3 k).2.2.1 = some (tyX3 k) := by decide +kernel
abbrev cX3_init : ByteArray := prog_5_method_1_code
def yX3_init : MethodName := ⟨RX3, "<init>", "()V"⟩
abbrev cX3_copyFrom : ByteArray := prog_5_method_2_code
def yX3_copyFrom : MethodName := ⟨RX3, "copyFrom", "(LColdChain$State;)V"⟩
abbrev cX3_hasVan : ByteArray := prog_5_method_3_code
def yX3_hasVan : MethodName := ⟨RX3, "hasVan", "(I)Z"⟩
abbrev cX3_hasZone : ByteArray := prog_5_method_4_code
def yX3_hasZone : MethodName := ⟨RX3, "hasZone", "(II)Z"⟩
abbrev cX3_hasPallet : ByteArray := prog_5_method_5_code
def yX3_hasPallet : MethodName := ⟨RX3, "hasPallet", "(I)Z"⟩
abbrev cX3_foundProbes : ByteArray := prog_5_method_6_code
def yX3_foundProbes : MethodName := ⟨RX3, "foundProbes", "()I"⟩
abbrev cX3_palletsIn : ByteArray := prog_5_method_7_code
def yX3_palletsIn : MethodName := ⟨RX3, "palletsIn", "(I)I"⟩
abbrev cX3_palletsInZone : ByteArray := prog_5_method_8_code
def yX3_palletsInZone : MethodName := ⟨RX3, "palletsInZone", "(II)I"⟩
abbrev cX3_hasOverdue : ByteArray := prog_5_method_9_code
def yX3_hasOverdue : MethodName := ⟨RX3, "hasOverdue", "(I)Z"⟩
abbrev cX3_putVan : ByteArray := prog_5_method_10_code
def yX3_putVan : MethodName := ⟨RX3, "putVan", "(II)I"⟩
abbrev cX3_changeNumber : ByteArray := prog_5_method_11_code
def yX3_changeNumber : MethodName := ⟨RX3, "changeNumber", "(II)I"⟩
abbrev cX3_changeVan : ByteArray := prog_5_method_12_code
def yX3_changeVan : MethodName := ⟨RX3, "changeVan", "(III)I"⟩
abbrev cX3_changeProbe : ByteArray := prog_5_method_13_code
def yX3_changeProbe : MethodName := ⟨RX3, "changeProbe", "(IIII)I"⟩
abbrev cX3_mendProbe : ByteArray := prog_5_method_14_code
def yX3_mendProbe : MethodName := ⟨RX3, "mendProbe", "(II)I"⟩
abbrev cX3_putPallet : ByteArray := prog_5_method_15_code
def yX3_putPallet : MethodName := ⟨RX3, "putPallet", "(IIIII)I"⟩
abbrev cX3_turnDoor : ByteArray := prog_5_method_16_code
def yX3_turnDoor : MethodName := ⟨RX3, "turnDoor", "(II)I"⟩
abbrev cX3_letPass : ByteArray := prog_5_method_17_code
def yX3_letPass : MethodName := ⟨RX3, "letPass", "(ILColdChain$History;)I"⟩
abbrev cX3_minuteInVan : ByteArray := prog_5_method_18_code
def yX3_minuteInVan : MethodName := ⟨RX3, "minuteInVan", "(I)I"⟩
abbrev cX3_handOver : ByteArray := prog_5_method_19_code
def yX3_handOver : MethodName := ⟨RX3, "handOver", "(I)I"⟩
abbrev cX3_bringBack : ByteArray := prog_5_method_20_code
def yX3_bringBack : MethodName := ⟨RX3, "bringBack", "(II)I"⟩
abbrev cX3_isIn : ByteArray := prog_5_method_21_code
def yX3_isIn : MethodName := ⟨RX3, "isIn", "(II)Z"⟩
abbrev cX3_shareByValues : ByteArray := prog_5_method_22_code
def yX3_shareByValues : MethodName := ⟨RX3, "shareByValues", "(II)V"⟩
abbrev cX3_shareRest : ByteArray := prog_5_method_23_code
def yX3_shareRest : MethodName := ⟨RX3, "shareRest", "(II)I"⟩
def RX4 : String := "ColdChain$Van"
def TX4 : u_T := fun k => match k with
  | 0 => ("ColdChain$Van", "setPoint", "I", false)
  | 1 => ("ColdChain$Van", "cooling", "I", false)
  | 2 => ("ColdChain$Van", "open", "Z", false)
  | 3 => ("ColdChain$Van", "addedAt", "I", false)
  | _ => ("ColdChain$Van", "zones", "[LColdChain$Zone;", true)
def tyX4 : Nat → FieldType := fun k => match k with
  | 0 => .int
  | 1 => .int
  | 2 => .boolean
  | 3 => .int
  | _ => .array (.object "ColdChain$Zone")
abbrev wsX40 : List Cond := u_ws RX4 TX4 5
set_option maxRecDepth 100000 in
theorem inX4 : ∀ w ∈ u_ws RX4 TX4 5, w ∈ lw_tbl := by decide +kernel
theorem nmX4 : ∀ a, a < 5 → ∀ b, b < 5 → a ≠ b → (TX4 a).2.1 ≠ (TX4 b).2.1 := by decide +kernel
theorem tyX4_ok : ∀ k, k < 5 → parseFieldDescriptor (TX4 k).2.2.1 = some (tyX4 k) := by decide +kernel
abbrev cX4_init : ByteArray := prog_6_method_1_code
def yX4_init : MethodName := ⟨RX4, "<init>", "()V"⟩
abbrev cX4_copyFrom : ByteArray := prog_6_method_2_code
def yX4_copyFrom : MethodName := ⟨RX4, "copyFrom", "(LColdChain$Van;)V"⟩
abbrev cX4_start : ByteArray := prog_6_method_3_code
def yX4_start : MethodName := ⟨RX4, "start", "(III)V"⟩
abbrev cX4_changeTemperatures : ByteArray := prog_6_method_4_code
def yX4_changeTemperatures : MethodName := ⟨RX4, "changeTemperatures", "(I)V"⟩
abbrev cX4_mixAir : ByteArray := prog_6_method_5_code
def yX4_mixAir : MethodName := ⟨RX4, "mixAir", "()V"⟩
abbrev cX4_findProbes : ByteArray := prog_6_method_6_code
def yX4_findProbes : MethodName := ⟨RX4, "findProbes", "(II)I"⟩
abbrev cX4_isOdd : ByteArray := prog_6_method_7_code
def yX4_isOdd : MethodName := ⟨RX4, "isOdd", "(II)Z"⟩
abbrev cX4_toldIn : ByteArray := prog_6_method_8_code
def yX4_toldIn : MethodName := ⟨RX4, "toldIn", "(I)I"⟩
def RX5 : String := "ColdChain$Zone"
def TX5 : u_T := fun k => match k with
  | 0 => ("ColdChain$Zone", "temperature", "I", false)
  | 1 => ("ColdChain$Zone", "mode", "I", false)
  | 2 => ("ColdChain$Zone", "value", "I", false)
  | 3 => ("ColdChain$Zone", "found", "Z", false)
  | _ => ("ColdChain$Zone", "oddMinutes", "I", false)
def tyX5 : Nat → FieldType := fun k => match k with
  | 0 => .int
  | 1 => .int
  | 2 => .int
  | 3 => .boolean
  | _ => .int
abbrev wsX50 : List Cond := u_ws RX5 TX5 5
set_option maxRecDepth 100000 in
theorem inX5 : ∀ w ∈ u_ws RX5 TX5 5, w ∈ lw_tbl := by decide +kernel
theorem nmX5 : ∀ a, a < 5 → ∀ b, b < 5 → a ≠ b → (TX5 a).2.1 ≠ (TX5 b).2.1 := by decide +kernel
theorem tyX5_ok : ∀ k, k < 5 → parseFieldDescriptor (TX5 k).2.2.1 = some (tyX5 k) := by decide +kernel
abbrev cX5_init : ByteArray := prog_7_method_1_code
def yX5_init : MethodName := ⟨RX5, "<init>", "()V"⟩
abbrev cX5_copyFrom : ByteArray := prog_7_method_2_code
def yX5_copyFrom : MethodName := ⟨RX5, "copyFrom", "(LColdChain$Zone;)V"⟩
abbrev cX5_mend : ByteArray := prog_7_method_3_code
def yX5_mend : MethodName := ⟨RX5, "mend", "()V"⟩
abbrev cX5_reading : ByteArray := prog_7_method_4_code
def yX5_reading : MethodName := ⟨RX5, "reading", "()I"⟩
abbrev cX5_coolTo : ByteArray := prog_7_method_5_code
def yX5_coolTo : MethodName := ⟨RX5, "coolTo", "(II)V"⟩
def RX6 : String := "ColdChain"
def TX6 : u_T := fun k => match k with
  | 0 => ("ColdChain", "now", "LColdChain$State;", true)
  | 1 => ("ColdChain", "trial", "LColdChain$State;", true)
  | 2 => ("ColdChain", "saved", "[LColdChain$State;", true)
  | 3 => ("ColdChain", "free", "I", false)
  | 4 => ("ColdChain", "savedCount", "I", false)
  | 5 => ("ColdChain", "history", "LColdChain$History;", true)
  | _ => ("ColdChain", "script", "LColdChain$Script;", true)
def tyX6 : Nat → FieldType := fun k => match k with
  | 0 => .object "ColdChain$State"
  | 1 => .object "ColdChain$State"
  | 2 => .array (.object "ColdChain$State")
  | 3 => .int
  | 4 => .int
  | 5 => .object "ColdChain$History"
  | _ => .object "ColdChain$Script"
abbrev wsX60 : List Cond := u_ws RX6 TX6 7
set_option maxRecDepth 100000 in
theorem inX6 : ∀ w ∈ u_ws RX6 TX6 7, w ∈ lw_tbl := by decide +kernel
theorem nmX6 : ∀ a, a < 7 → ∀ b, b < 7 → a ≠ b → (TX6 a).2.1 ≠ (TX6 b).2.1 := by decide +kernel
theorem tyX6_ok : ∀ k, k < 7 → parseFieldDescriptor (TX6 k).2.2.1 = some (tyX6 k) := by decide +kernel
abbrev cX6_init : ByteArray := prog_1_method_1_code
def yX6_init : MethodName := ⟨RX6, "<init>", "()V"⟩
abbrev cX6_addVan : ByteArray := prog_1_method_2_code
def yX6_addVan : MethodName := ⟨RX6, "addVan", "(II)I"⟩
abbrev cX6_setNumber : ByteArray := prog_1_method_3_code
def yX6_setNumber : MethodName := ⟨RX6, "setNumber", "(II)I"⟩
abbrev cX6_setVan : ByteArray := prog_1_method_4_code
def yX6_setVan : MethodName := ⟨RX6, "setVan", "(III)I"⟩
abbrev cX6_setProbe : ByteArray := prog_1_method_5_code
def yX6_setProbe : MethodName := ⟨RX6, "setProbe", "(IIII)I"⟩
abbrev cX6_repair : ByteArray := prog_1_method_6_code
def yX6_repair : MethodName := ⟨RX6, "repair", "(II)I"⟩
abbrev cX6_loadPallet : ByteArray := prog_1_method_7_code
def yX6_loadPallet : MethodName := ⟨RX6, "loadPallet", "(IIIII)I"⟩
abbrev cX6_door : ByteArray := prog_1_method_8_code
def yX6_door : MethodName := ⟨RX6, "door", "(II)I"⟩
abbrev cX6_pass : ByteArray := prog_1_method_9_code
def yX6_pass : MethodName := ⟨RX6, "pass", "(I)I"⟩
abbrev cX6_deliver : ByteArray := prog_1_method_10_code
def yX6_deliver : MethodName := ⟨RX6, "deliver", "(I)I"⟩
abbrev cX6_detour : ByteArray := prog_1_method_11_code
def yX6_detour : MethodName := ⟨RX6, "detour", "(II)I"⟩
abbrev cX6_appendCharacter : ByteArray := prog_1_method_12_code
def yX6_appendCharacter : MethodName := ⟨RX6, "appendCharacter", "(I)I"⟩
abbrev cX6_clearText : ByteArray := prog_1_method_13_code
def yX6_clearText : MethodName := ⟨RX6, "clearText", "()I"⟩
abbrev cX6_runScript : ByteArray := prog_1_method_14_code
def yX6_runScript : MethodName := ⟨RX6, "runScript", "()I"⟩
abbrev cX6_count : ByteArray := prog_1_method_15_code
def yX6_count : MethodName := ⟨RX6, "count", "(I)I"⟩
abbrev cX6_van : ByteArray := prog_1_method_16_code
def yX6_van : MethodName := ⟨RX6, "van", "(II)I"⟩
abbrev cX6_zone : ByteArray := prog_1_method_17_code
def yX6_zone : MethodName := ⟨RX6, "zone", "(III)I"⟩
abbrev cX6_pallet : ByteArray := prog_1_method_18_code
def yX6_pallet : MethodName := ⟨RX6, "pallet", "(II)I"⟩
abbrev cX6_claims : ByteArray := prog_1_method_19_code
def yX6_claims : MethodName := ⟨RX6, "claims", "(I)I"⟩
abbrev cX6_log : ByteArray := prog_1_method_20_code
def yX6_log : MethodName := ⟨RX6, "log", "(IIII)I"⟩
abbrev cX6_warm : ByteArray := prog_1_method_21_code
def yX6_warm : MethodName := ⟨RX6, "warm", "(IIIIII)I"⟩
abbrev cX6_minutesLeft : ByteArray := prog_1_method_22_code
def yX6_minutesLeft : MethodName := ⟨RX6, "minutesLeft", "(I)I"⟩
abbrev cX6_longestOpen : ByteArray := prog_1_method_23_code
def yX6_longestOpen : MethodName := ⟨RX6, "longestOpen", "(I)I"⟩
abbrev cX6_undo : ByteArray := prog_1_method_24_code
def yX6_undo : MethodName := ⟨RX6, "undo", "()I"⟩
abbrev cX6_noteState : ByteArray := prog_1_method_25_code
def yX6_noteState : MethodName := ⟨RX6, "noteState", "()V"⟩
abbrev cX6_kept : ByteArray := prog_1_method_26_code
def yX6_kept : MethodName := ⟨RX6, "kept", "(I)I"⟩
abbrev cX6_isError : ByteArray := prog_1_method_27_code
def yX6_isError : MethodName := ⟨RX6, "isError", "(I)Z"⟩
abbrev cX6_runCommand : ByteArray := prog_1_method_28_code
def yX6_runCommand : MethodName := ⟨RX6, "runCommand", "(I)I"⟩
abbrev cX6_mayBeOpen : ByteArray := prog_1_method_29_code
def yX6_mayBeOpen : MethodName := ⟨RX6, "mayBeOpen", "(II)Z"⟩
abbrev cX6_isWithin : ByteArray := prog_1_method_30_code
def yX6_isWithin : MethodName := ⟨RX6, "isWithin", "(III)Z"⟩
abbrev cX6_isVanSetting : ByteArray := prog_1_method_31_code
def yX6_isVanSetting : MethodName := ⟨RX6, "isVanSetting", "(II)Z"⟩
abbrev cX6_isProbeSetting : ByteArray := prog_1_method_32_code
def yX6_isProbeSetting : MethodName := ⟨RX6, "isProbeSetting", "(II)Z"⟩
abbrev cX6_isLimit : ByteArray := prog_1_method_33_code
def yX6_isLimit : MethodName := ⟨RX6, "isLimit", "(I)Z"⟩
abbrev cX6_isPrice : ByteArray := prog_1_method_34_code
def yX6_isPrice : MethodName := ⟨RX6, "isPrice", "(I)Z"⟩
def RX7 : String := "ColdChainModel"
def TX7 : u_T := fun k => match k with
  | 0 => ("ColdChainModel", "s", "[I", true)
  | 1 => ("ColdChainModel", "past", "[I", true)
  | 2 => ("ColdChainModel", "aside", "[I", true)
  | 3 => ("ColdChainModel", "kept", "[I", true)
  | 4 => ("ColdChainModel", "pasts", "I", false)
  | 5 => ("ColdChainModel", "log", "[I", true)
  | 6 => ("ColdChainModel", "isReal", "Z", false)
  | 7 => ("ColdChainModel", "text", "[I", true)
  | 8 => ("ColdChainModel", "typed", "I", false)
  | 9 => ("ColdChainModel", "spot", "I", false)
  | 10 => ("ColdChainModel", "letter", "I", false)
  | _ => ("ColdChainModel", "numbers", "[I", true)
def tyX7 : Nat → FieldType := fun k => match k with
  | 0 => .array .int
  | 1 => .array .int
  | 2 => .array .int
  | 3 => .array .int
  | 4 => .int
  | 5 => .array .int
  | 6 => .boolean
  | 7 => .array .int
  | 8 => .int
  | 9 => .int
  | 10 => .int
  | _ => .array .int
abbrev wsX70 : List Cond := u_ws RX7 TX7 12
set_option maxRecDepth 100000 in
theorem inX7 : ∀ w ∈ u_ws RX7 TX7 12, w ∈ lw_tbl := by decide +kernel
theorem nmX7 : ∀ a, a < 12 → ∀ b, b < 12 → a ≠ b → (TX7 a).2.1 ≠ (TX7 b).2.1 := by decide +kernel
theorem tyX7_ok : ∀ k, k < 12 → parseFieldDescriptor (TX7 k).2.2.1 = some (tyX7 k) := by decide +kernel
abbrev cX7_init : ByteArray := prog_9_method_1_code
def yX7_init : MethodName := ⟨RX7, "<init>", "()V"⟩
abbrev cX7_in : ByteArray := prog_9_method_3_code
def yX7_in : MethodName := ⟨RX7, "in", "(III)Z"⟩
abbrev cX7_copies : ByteArray := prog_9_method_4_code
def yX7_copies : MethodName := ⟨RX7, "copies", "([I[I)V"⟩
abbrev cX7_hold : ByteArray := prog_9_method_5_code
def yX7_hold : MethodName := ⟨RX7, "hold", "()V"⟩
abbrev cX7_ends : ByteArray := prog_9_method_6_code
def yX7_ends : MethodName := ⟨RX7, "ends", "(I)I"⟩
abbrev cX7_isVan : ByteArray := prog_9_method_7_code
def yX7_isVan : MethodName := ⟨RX7, "isVan", "(I)Z"⟩
abbrev cX7_isZone : ByteArray := prog_9_method_8_code
def yX7_isZone : MethodName := ⟨RX7, "isZone", "(I)Z"⟩
abbrev cX7_isPallet : ByteArray := prog_9_method_9_code
def yX7_isPallet : MethodName := ⟨RX7, "isPallet", "(I)Z"⟩
abbrev cX7_of : ByteArray := prog_9_method_10_code
def yX7_of : MethodName := ⟨RX7, "of", "(II)I"⟩
abbrev cX7_zoneSpot : ByteArray := prog_9_method_11_code
def yX7_zoneSpot : MethodName := ⟨RX7, "zoneSpot", "(II)I"⟩
abbrev cX7_at : ByteArray := prog_9_method_12_code
def yX7_at : MethodName := ⟨RX7, "at", "(III)I"⟩
abbrev cX7_palletSpot : ByteArray := prog_9_method_13_code
def yX7_palletSpot : MethodName := ⟨RX7, "palletSpot", "(I)I"⟩
abbrev cX7_its : ByteArray := prog_9_method_14_code
def yX7_its : MethodName := ⟨RX7, "its", "(II)I"⟩
abbrev cX7_reading : ByteArray := prog_9_method_15_code
def yX7_reading : MethodName := ⟨RX7, "reading", "(II)I"⟩
abbrev cX7_told : ByteArray := prog_9_method_16_code
def yX7_told : MethodName := ⟨RX7, "told", "(II)I"⟩
abbrev cX7_apart : ByteArray := prog_9_method_17_code
def yX7_apart : MethodName := ⟨RX7, "apart", "(II)I"⟩
abbrev cX7_isOdd : ByteArray := prog_9_method_18_code
def yX7_isOdd : MethodName := ⟨RX7, "isOdd", "(II)Z"⟩
abbrev cX7_heats : ByteArray := prog_9_method_19_code
def yX7_heats : MethodName := ⟨RX7, "heats", "(I)V"⟩
abbrev cX7_reads : ByteArray := prog_9_method_20_code
def yX7_reads : MethodName := ⟨RX7, "reads", "(I)I"⟩
abbrev cX7_warms : ByteArray := prog_9_method_21_code
def yX7_warms : MethodName := ⟨RX7, "warms", "(I)V"⟩
abbrev cX7_minute : ByteArray := prog_9_method_22_code
def yX7_minute : MethodName := ⟨RX7, "minute", "()I"⟩
abbrev cX7_inVan : ByteArray := prog_9_method_23_code
def yX7_inVan : MethodName := ⟨RX7, "inVan", "(I)I"⟩
abbrev cX7_bits : ByteArray := prog_9_method_24_code
def yX7_bits : MethodName := ⟨RX7, "bits", "(I)I"⟩
abbrev cX7_doors : ByteArray := prog_9_method_25_code
def yX7_doors : MethodName := ⟨RX7, "doors", "(II)I"⟩
abbrev cX7_passes : ByteArray := prog_9_method_26_code
def yX7_passes : MethodName := ⟨RX7, "passes", "(I)I"⟩
abbrev cX7_delivers : ByteArray := prog_9_method_27_code
def yX7_delivers : MethodName := ⟨RX7, "delivers", "(I)I"⟩
abbrev cX7_repairs : ByteArray := prog_9_method_28_code
def yX7_repairs : MethodName := ⟨RX7, "repairs", "(II)I"⟩
abbrev cX7_done : ByteArray := prog_9_method_29_code
def yX7_done : MethodName := ⟨RX7, "done", "(I)I"⟩
abbrev cX7_isCold : ByteArray := prog_9_method_30_code
def yX7_isCold : MethodName := ⟨RX7, "isCold", "(II)Z"⟩
abbrev cX7_addVan : ByteArray := prog_9_method_31_code
def yX7_addVan : MethodName := ⟨RX7, "addVan", "(II)I"⟩
abbrev cX7_isNumber : ByteArray := prog_9_method_32_code
def yX7_isNumber : MethodName := ⟨RX7, "isNumber", "(II)Z"⟩
abbrev cX7_setNumber : ByteArray := prog_9_method_33_code
def yX7_setNumber : MethodName := ⟨RX7, "setNumber", "(II)I"⟩
abbrev cX7_setVan : ByteArray := prog_9_method_34_code
def yX7_setVan : MethodName := ⟨RX7, "setVan", "(III)I"⟩
abbrev cX7_isMode : ByteArray := prog_9_method_35_code
def yX7_isMode : MethodName := ⟨RX7, "isMode", "(II)Z"⟩
abbrev cX7_setProbe : ByteArray := prog_9_method_36_code
def yX7_setProbe : MethodName := ⟨RX7, "setProbe", "(IIII)I"⟩
abbrev cX7_repair : ByteArray := prog_9_method_37_code
def yX7_repair : MethodName := ⟨RX7, "repair", "(II)I"⟩
abbrev cX7_manyIn : ByteArray := prog_9_method_38_code
def yX7_manyIn : MethodName := ⟨RX7, "manyIn", "(II)I"⟩
abbrev cX7_loadPallet : ByteArray := prog_9_method_39_code
def yX7_loadPallet : MethodName := ⟨RX7, "loadPallet", "(IIIII)I"⟩
abbrev cX7_door : ByteArray := prog_9_method_40_code
def yX7_door : MethodName := ⟨RX7, "door", "(II)I"⟩
abbrev cX7_pass : ByteArray := prog_9_method_41_code
def yX7_pass : MethodName := ⟨RX7, "pass", "(I)I"⟩
abbrev cX7_deliver : ByteArray := prog_9_method_42_code
def yX7_deliver : MethodName := ⟨RX7, "deliver", "(I)I"⟩
abbrev cX7_detour : ByteArray := prog_9_method_43_code
def yX7_detour : MethodName := ⟨RX7, "detour", "(II)I"⟩
abbrev cX7_appendCharacter : ByteArray := prog_9_method_44_code
def yX7_appendCharacter : MethodName := ⟨RX7, "appendCharacter", "(I)I"⟩
abbrev cX7_clearText : ByteArray := prog_9_method_45_code
def yX7_clearText : MethodName := ⟨RX7, "clearText", "()I"⟩
abbrev cX7_isAt : ByteArray := prog_9_method_46_code
def yX7_isAt : MethodName := ⟨RX7, "isAt", "(II)Z"⟩
abbrev cX7_skips : ByteArray := prog_9_method_47_code
def yX7_skips : MethodName := ⟨RX7, "skips", "()V"⟩
abbrev cX7_takes : ByteArray := prog_9_method_48_code
def yX7_takes : MethodName := ⟨RX7, "takes", "(I)Z"⟩
abbrev cX7_isFigure : ByteArray := prog_9_method_49_code
def yX7_isFigure : MethodName := ⟨RX7, "isFigure", "(I)Z"⟩
abbrev cX7_isCommand : ByteArray := prog_9_method_50_code
def yX7_isCommand : MethodName := ⟨RX7, "isCommand", "()Z"⟩
abbrev cX7_does : ByteArray := prog_9_method_51_code
def yX7_does : MethodName := ⟨RX7, "does", "()I"⟩
abbrev cX7_isScript : ByteArray := prog_9_method_52_code
def yX7_isScript : MethodName := ⟨RX7, "isScript", "()Z"⟩
abbrev cX7_runScript : ByteArray := prog_9_method_53_code
def yX7_runScript : MethodName := ⟨RX7, "runScript", "()I"⟩
abbrev cX7_count : ByteArray := prog_9_method_54_code
def yX7_count : MethodName := ⟨RX7, "count", "(I)I"⟩
abbrev cX7_van : ByteArray := prog_9_method_55_code
def yX7_van : MethodName := ⟨RX7, "van", "(II)I"⟩
abbrev cX7_zone : ByteArray := prog_9_method_56_code
def yX7_zone : MethodName := ⟨RX7, "zone", "(III)I"⟩
abbrev cX7_cause : ByteArray := prog_9_method_57_code
def yX7_cause : MethodName := ⟨RX7, "cause", "(I)I"⟩
abbrev cX7_pallet : ByteArray := prog_9_method_58_code
def yX7_pallet : MethodName := ⟨RX7, "pallet", "(II)I"⟩
abbrev cX7_claim : ByteArray := prog_9_method_59_code
def yX7_claim : MethodName := ⟨RX7, "claim", "(II)I"⟩
abbrev cX7_claims : ByteArray := prog_9_method_60_code
def yX7_claims : MethodName := ⟨RX7, "claims", "(I)I"⟩
abbrev cX7_entry : ByteArray := prog_9_method_61_code
def yX7_entry : MethodName := ⟨RX7, "entry", "(IIII)I"⟩
abbrev cX7_log : ByteArray := prog_9_method_62_code
def yX7_log : MethodName := ⟨RX7, "log", "(IIII)I"⟩
abbrev cX7_warm : ByteArray := prog_9_method_63_code
def yX7_warm : MethodName := ⟨RX7, "warm", "(IIIIII)I"⟩
abbrev cX7_minutesLeft : ByteArray := prog_9_method_64_code
def yX7_minutesLeft : MethodName := ⟨RX7, "minutesLeft", "(I)I"⟩
abbrev cX7_mayBeOpen : ByteArray := prog_9_method_65_code
def yX7_mayBeOpen : MethodName := ⟨RX7, "mayBeOpen", "(II)Z"⟩
abbrev cX7_longestOpen : ByteArray := prog_9_method_66_code
def yX7_longestOpen : MethodName := ⟨RX7, "longestOpen", "(I)I"⟩
abbrev cX7_undo : ByteArray := prog_9_method_67_code
def yX7_undo : MethodName := ⟨RX7, "undo", "()I"⟩
def RJ6 : String := "java/lang/Integer"
abbrev cJ6_bitCount_0f7a4 : ByteArray := prog_10_method_49_code
def yJ6_bitCount_0f7a4 : MethodName := ⟨RJ6, "bitCount", "(I)I"⟩
def RJ9 : String := "java/lang/Math"
abbrev cJ9_floorDiv_7cf53 : ByteArray := prog_11_method_47_code
def yJ9_floorDiv_7cf53 : MethodName := ⟨RJ9, "floorDiv", "(II)I"⟩
abbrev cJ9_abs_0f7a4 : ByteArray := prog_11_method_59_code
def yJ9_abs_0f7a4 : MethodName := ⟨RJ9, "abs", "(I)I"⟩
abbrev cJ9_max_7cf53 : ByteArray := prog_11_method_65_code
def yJ9_max_7cf53 : MethodName := ⟨RJ9, "max", "(II)I"⟩
abbrev cJ9_min_7cf53 : ByteArray := prog_11_method_69_code
def yJ9_min_7cf53 : MethodName := ⟨RJ9, "min", "(II)I"⟩
def RL : String := "ColdChainLaw"
abbrev cL_law : ByteArray := code
def yL_law : MethodName := ⟨RL, "law", "([I)Z"⟩
abbrev vwCl : List vw_C := [(RX0, TX0, 2), (RX1, TX1, 10), (RX2, TX2, 7), (RX3, TX3, 8), (RX4, TX4, 5), (RX5, TX5, 5), (RX6, TX6, 7), (RX7, TX7, 12)]
end
section
/-! CORE: the heap of the system once it is built has a fixed shape; only ints change. An object is named by (kind, three indices), the ints by (region, index). -/
abbrev Obj : Type := Nat × Nat × Nat × Nat
abbrev OV : Type := Int32 ⊕ Obj
abbrev Mm : Type := Nat → Nat → Int32
abbrev Gl : Type := va_G × (Obj → Nat) × (Nat → ClassId)
def vlv (G : Gl) : OV → Value
  | .inl x => .int x
  | .inr o => .ref (G.2.1 o)
def wr (M : Mm) (r i : Nat) (x : Int32) : Mm := fun r' i' => if r' = r ∧ i' = i then x else M r' i'
def lenR (r : Nat) : Nat := if r < 26 then 80 else if r < 48 then 601 else if r = 50 then 183 else if r = 51 then 1098 else if r = 52 then 183 else if r = 53 then 183 else if r = 54 then 10800 else if r = 55 then 80 else 2
/-- which objects there are -/
def okO : Obj → Bool
  | (0, a, b, c) => decide (a = 0 ∧ b = 0 ∧ c = 0)
  | (1, q, p, c) => decide (q < 9 ∧ p < 12 ∧ c = 0)
  | (2, a, b, c) => decide (a = 0 ∧ b = 0 ∧ c = 0)
  | (3, q, b, c) => decide (q < 9 ∧ b = 0 ∧ c = 0)
  | (4, q, v, c) => decide (q < 9 ∧ v < 3 ∧ c = 0)
  | (5, q, v, z) => decide (q < 9 ∧ v < 3 ∧ z < 3)
  | (6, a, b, c) => decide (a = 0 ∧ b = 0 ∧ c = 0)
  | (7, a, b, c) => decide (a = 0 ∧ b = 0 ∧ c = 0)
  | (8, r, n, c) => decide (r = 22 ∧ n = 80 ∧ c = 0)
  | (9, r, n, c) => decide (((23 ≤ r ∧ r ≤ 25) ∨ (30 ≤ r ∧ r ≤ 47) ∨ (50 ≤ r ∧ r ≤ 56)) ∧ n = lenR r ∧ c = 0)
  | (10, q, b, c) => decide (q < 9 ∧ b = 0 ∧ c = 0)
  | (11, a, b, c) => decide (a = 0 ∧ b = 0 ∧ c = 0)
  | (12, q, b, c) => decide (q < 9 ∧ b = 0 ∧ c = 0)
  | (13, q, v, c) => decide (q < 9 ∧ v < 3 ∧ c = 0)
  | (14, t, b, c) => decide (t < 2 ∧ b = 0 ∧ c = 0)
  | _ => false
/-- a row of references -/
def rfR (G : Gl) (n : Nat) (f : Nat → Obj) : Nat → Option Nat := fun i => if i < n then some (G.2.1 (f i)) else none
/-- what an object holds -/
def ent (G : Gl) (M : Mm) : Obj → va_E
  | (0, _, _, _) => .inr (0, [.ref (G.2.1 (14, 0, 0, 0)), .ref (G.2.1 (14, 1, 0, 0))])
  | (1, q, p, _) => .inr (1, [.int (M q (63 + 10 * p)), .int (M q (63 + 10 * p + 1)), .int (M q (63 + 10 * p + 2)), .int (M q (63 + 10 * p + 3)), .int (M q (63 + 10 * p + 4)), .int (M q (63 + 10 * p + 5)), .int (M q (63 + 10 * p + 6)), .int (M q (63 + 10 * p + 7)), .int (M q (63 + 10 * p + 8)), .int (M q (63 + 10 * p + 9))])
  | (2, _, _, _) => .inr (2, [.ref (G.2.1 (8, 22, 80, 0)), .int (M 21 0), .int (M 21 1), .ref (G.2.1 (9, 23, 80, 0)), .ref (G.2.1 (9, 24, 80, 0)), .ref (G.2.1 (9, 25, 80, 0)), .int (M 21 2)])
  | (3, q, _, _) => .inr (3, [.int (M q 2), .int (M q 3), .int (M q 4), .int (M q 5), .int (M q 0), .int (M q 1), .ref (G.2.1 (12, q, 0, 0)), .ref (G.2.1 (10, q, 0, 0))])
  | (4, q, v, _) => .inr (4, [.int (M q (6 + 19 * v)), .int (M q (6 + 19 * v + 1)), .int (M q (6 + 19 * v + 2)), .int (M q (6 + 19 * v + 3)), .ref (G.2.1 (13, q, v, 0))])
  | (5, q, v, z) => .inr (5, [.int (M q (10 + 19 * v + 5 * z)), .int (M q (10 + 19 * v + 5 * z + 1)), .int (M q (10 + 19 * v + 5 * z + 2)), .int (M q (10 + 19 * v + 5 * z + 3)), .int (M q (10 + 19 * v + 5 * z + 4))])
  | (6, _, _, _) => .inr (6, [.ref (G.2.1 (3, 0, 0, 0)), .ref (G.2.1 (3, 1, 0, 0)), .ref (G.2.1 (11, 0, 0, 0)), .int (M 20 0), .int (M 20 1), .ref (G.2.1 (0, 0, 0, 0)), .ref (G.2.1 (2, 0, 0, 0))])
  | (7, _, _, _) => .inr (7, [.ref (G.2.1 (9, 50, 183, 0)), .ref (G.2.1 (9, 51, 1098, 0)), .ref (G.2.1 (9, 52, 183, 0)), .ref (G.2.1 (9, 53, 183, 0)), .int (M 60 0), .ref (G.2.1 (9, 54, 10800, 0)), .int (M 60 1), .ref (G.2.1 (9, 55, 80, 0)), .int (M 60 2), .int (M 60 3), .int (M 60 4), .ref (G.2.1 (9, 56, 2, 0))])
  | (8, r, n, _) => .inl (G.2.2 8, n, .inl (M r))
  | (9, r, n, _) => .inl (G.2.2 9, n, .inl (M r))
  | (10, q, _, _) => .inl (G.2.2 10, 12, .inr (.inr (.inr (.inr (rfR G 12 (fun i => (1, q, i, 0)))))))
  | (11, _, _, _) => .inl (G.2.2 11, 7, .inr (.inr (.inr (.inr (rfR G 7 (fun i => (3, 2 + i, 0, 0)))))))
  | (12, q, _, _) => .inl (G.2.2 12, 3, .inr (.inr (.inr (.inr (rfR G 3 (fun i => (4, q, i, 0)))))))
  | (13, q, v, _) => .inl (G.2.2 13, 3, .inr (.inr (.inr (.inr (rfR G 3 (fun i => (5, q, v, i)))))))
  | (14, t, _, _) => .inl (G.2.2 14, 9, .inr (.inr (.inr (.inr (rfR G 9 (fun i => (9, 30 + 9 * t + i, 601, 0)))))))
  | _ => .inr (99, [])
/-- the object that owns a place -/
def ow (r i : Nat) : Obj :=
  if r < 9 then
    if i < 6 then (3, r, 0, 0)
    else if i < 63 then (if (i - 6) % 19 < 4 then (4, r, (i - 6) / 19, 0) else (5, r, (i - 6) / 19, ((i - 6) % 19 - 4) / 5))
    else (1, r, (i - 63) / 10, 0)
  else if r = 20 then (6, 0, 0, 0) else if r = 21 then (2, 0, 0, 0) else if r = 60 then (7, 0, 0, 0)
  else if r = 22 then (8, 22, 80, 0) else (9, r, lenR r, 0)
theorem ow1 {q p j : Nat} (hq : q < 9) (hj : j < 10) : ow q (63 + 10 * p + j) = (1, q, p, 0) := by
  have e : (63 + 10 * p + j - 63) / 10 = p := by omega
  rw [ow, if_pos hq, if_neg (by omega), if_neg (by omega), e]
theorem ow4 {q v j : Nat} (hq : q < 9) (hv : v < 3) (hj : j < 4) : ow q (6 + 19 * v + j) = (4, q, v, 0) := by
  have e : (6 + 19 * v + j - 6) / 19 = v := by omega
  rw [ow, if_pos hq, if_neg (by omega), if_pos (by omega), if_pos (by omega), e]
theorem ow5 {q v z j : Nat} (hq : q < 9) (hv : v < 3) (hz : z < 3) (hj : j < 5) : ow q (10 + 19 * v + 5 * z + j) = (5, q, v, z) := by
  have e : (10 + 19 * v + 5 * z + j - 6) / 19 = v := by omega
  have e2 : ((10 + 19 * v + 5 * z + j - 6) % 19 - 4) / 5 = z := by omega
  rw [ow, if_pos hq, if_neg (by omega), if_pos (by omega), if_neg (by omega), e, e2]
theorem ow3 {q j : Nat} (hq : q < 9) (hj : j < 6) : ow q j = (3, q, 0, 0) := by
  rw [ow, if_pos hq, if_pos hj]
theorem ow9 {r n c i : Nat} (h : okO (9, r, n, c) = true) : ow r i = (9, r, n, c) := by
  simp only [okO, decide_eq_true_eq] at h
  obtain ⟨h1, rfl, rfl⟩ := h
  rw [ow, if_neg (by omega), if_neg (by omega), if_neg (by omega), if_neg (by omega), if_neg (by omega)]
theorem ent_congr (G : Gl) {M M' : Mm} {o : Obj} (ho : okO o = true) (h : ∀ r i, ow r i = o → M r i = M' r i) : ent G M o = ent G M' o := by
  obtain ⟨k, a, b, c⟩ := o
  match k, ho, h with
  | 0, _, _ => rfl
  | 1, ho, h =>
    simp only [okO, decide_eq_true_eq] at ho
    obtain ⟨h1, h2, rfl⟩ := ho
    have e : ∀ j, j < 10 → M a (63 + 10 * b + j) = M' a (63 + 10 * b + j) := fun j hj => h _ _ (ow1 h1 hj)
    have e0 : M a (63 + 10 * b) = M' a (63 + 10 * b) := e 0 (by decide)
    simp only [ent, e0, e 1 (by decide), e 2 (by decide), e 3 (by decide), e 4 (by decide), e 5 (by decide), e 6 (by decide), e 7 (by decide), e 8 (by decide), e 9 (by decide)]
  | 2, ho, h =>
    simp only [okO, decide_eq_true_eq] at ho
    obtain ⟨rfl, rfl, rfl⟩ := ho
    have e : ∀ j, M 21 j = M' 21 j := fun j => h _ _ rfl
    simp only [ent, e]
  | 3, ho, h =>
    simp only [okO, decide_eq_true_eq] at ho
    obtain ⟨h1, rfl, rfl⟩ := ho
    have e : ∀ j, j < 6 → M a j = M' a j := fun j hj => h _ _ (ow3 h1 hj)
    simp only [ent, e 0 (by decide), e 1 (by decide), e 2 (by decide), e 3 (by decide), e 4 (by decide), e 5 (by decide)]
  | 4, ho, h =>
    simp only [okO, decide_eq_true_eq] at ho
    obtain ⟨h1, h2, rfl⟩ := ho
    have e : ∀ j, j < 4 → M a (6 + 19 * b + j) = M' a (6 + 19 * b + j) := fun j hj => h _ _ (ow4 h1 h2 hj)
    have e0 : M a (6 + 19 * b) = M' a (6 + 19 * b) := e 0 (by decide)
    simp only [ent, e0, e 1 (by decide), e 2 (by decide), e 3 (by decide)]
  | 5, ho, h =>
    simp only [okO, decide_eq_true_eq] at ho
    obtain ⟨h1, h2, h3⟩ := ho
    have e : ∀ j, j < 5 → M a (10 + 19 * b + 5 * c + j) = M' a (10 + 19 * b + 5 * c + j) := fun j hj => h _ _ (ow5 h1 h2 h3 hj)
    have e0 : M a (10 + 19 * b + 5 * c) = M' a (10 + 19 * b + 5 * c) := e 0 (by decide)
    simp only [ent, e0, e 1 (by decide), e 2 (by decide), e 3 (by decide), e 4 (by decide)]
  | 6, ho, h =>
    simp only [okO, decide_eq_true_eq] at ho
    obtain ⟨rfl, rfl, rfl⟩ := ho
    have e : ∀ j, M 20 j = M' 20 j := fun j => h _ _ rfl
    simp only [ent, e]
  | 7, ho, h =>
    simp only [okO, decide_eq_true_eq] at ho
    obtain ⟨rfl, rfl, rfl⟩ := ho
    have e : ∀ j, M 60 j = M' 60 j := fun j => h _ _ rfl
    simp only [ent, e]
  | 8, ho, h =>
    simp only [okO, decide_eq_true_eq] at ho
    obtain ⟨rfl, rfl, rfl⟩ := ho
    have e : M 22 = M' 22 := funext fun j => h _ _ rfl
    simp only [ent, e]
  | 9, ho, h =>
    have e : M a = M' a := funext fun j => h _ _ (ow9 ho)
    simp only [ent, e]
  | 10, _, _ => rfl
  | 11, _, _ => rfl
  | 12, _, _ => rfl
  | 13, _, _ => rfl
  | 14, _, _ => rfl
  | k + 15, ho, _ => simp [okO] at ho
/-- the heap holds the ints M in the system's shape -/
def Mem (G : Gl) (M : Mm) (H : Heap) : Prop := ∀ o, okO o = true → va_at G.1 vwCl (G.2.1 o, ent G M o) H
def GI (G : Gl) : Prop := ∀ o o', okO o = true → okO o' = true → G.2.1 o = G.2.1 o' → o = o'
def AG (G : Gl) : Nat → Prop := fun a => ∃ o, okO o = true ∧ G.2.1 o = a
theorem Mem.put {G : Gl} {M : Mm} {H H1 : Heap} {o : Obj} {r i : Nat} {x : Int32} (hG : GI G) (hM : Mem G M H) (ho : okO o = true) (how : ow r i = o) (h1 : va_at G.1 vwCl (G.2.1 o, ent G (wr M r i x) o) H1) (oq : ∀ q : Nat, q ≠ G.2.1 o → H1[q]? = H[q]?) : Mem G (wr M r i x) H1 := by
  intro o' ho'
  by_cases h : o' = o
  · subst h; exact h1
  · have e : ent G (wr M r i x) o' = ent G M o' := ent_congr G ho' (fun r' i' hw => if_neg (by rintro ⟨rfl, rfl⟩; exact h (hw.symm.trans how)))
    rw [e]
    exact (hM o' ho').kept (oq _ (fun z => h (hG o' o ho' ho z)))
theorem Mem.ext {G : Gl} {M M' : Mm} {H : Heap} (hM : Mem G M H) (h : ∀ r i, okO (ow r i) = true → M r i = M' r i) : Mem G M' H := by
  intro o ho
  rw [← ent_congr G ho (fun r i hw => h r i (by rw [hw]; exact ho))]
  exact hM o ho
/-- the arrays' classes -/
def tysG (G : Gl) : List (ClassId × FieldType) := [(G.2.2 8, .char), (G.2.2 9, .int), (G.2.2 10, .object "ColdChain$Pallet"), (G.2.2 11, .object "ColdChain$State"), (G.2.2 12, .object "ColdChain$Van"), (G.2.2 13, .object "ColdChain$Zone"), (G.2.2 14, .array .int)]
def KK (G : Gl) (U : State) : Prop := va_K G.1 vwCl (tysG G) U ∧ ∀ w ∈ lw_tbl, wOK w = true → va_Nw w U
def warmF (j : Nat) : Int32 := if j = 0 then 3 else if j = 1 then 6 else 12
def SS (G : Gl) (A : Nat → Prop) (U : State) (H : Heap) : Prop := va_Z "ColdChain" "WARMING" "[I" (.ref (G.2.1 (15, 0, 0, 0))) A U H ∧ va_T .int (G.2.1 (15, 0, 0, 0)) 3 (fun j => .int (warmF j)) A U H
theorem wOK_warm {w : Cond} {s U : State} (h : wOK w = true) (hW : s.WarmedH U.vm) (hz : va_Nw w s) : va_Nw w U := by
  cases w with
  | fieldLinkNest a i b n d hh => exact va_Nw.warmF hW hz
  | methodLinkNest a i x hh => exact va_Nw.warmM hW hz
  | arrayOver t =>
    cases t with
    | object C => exact va_AO.moved (C := C) hW.alike hz
    | array C => exact over_moved hW.alike hz
    | _ => exact word_at hW (good_of_word h) hz
  | _ => exact word_at hW (good_of_word h) hz
theorem KK.warm {G : Gl} {s U : State} (h : KK G s) (hW : s.WarmedH U.vm) : KK G U := ⟨va_K.moved hW.alike h.1, fun w hw ho => wOK_warm ho hW (h.2 w hw ho)⟩
end
section
/-! AW: the walk of a method over the shape: program counter, locals, stack, ints. -/
def FrOK (G : Gl) (A : Nat → Prop) (cc : ByteArray) (own : String) (nL fr lo : Nat) (p : Program) (R : Room) (s : State) (m : MethodId) (c : Code) (cells slots : Nat) : Prop :=
  p.tables.exec = Jvm.exec ∧ c.code = cc ∧ c.maxLocals = nL ∧ s.vm.findClass own = some m.cls ∧ fr ≤ R.frames ∧ lo ≤ R.locals ∧ cells ≤ R.cells ∧ slots ≤ R.slots ∧ KK G s ∧ SS G A s s.heap ∧ GI G ∧ (∀ q, AG G q → A q)
/-- the locals: what is known of them -/
def Lh (G : Gl) (lsA : Array Slot) (nL : Nat) (ls : List (Option OV)) : Prop := lsA.size = nL ∧ ls.length = nL ∧ lv_wf lsA ∧ ∀ (i : Nat) (v : OV), ls[i]? = some (some v) → lsA[i]? = some (.val (vlv G v))
/-- the method's end at a program counter with an answer -/
def retI (cc : ByteArray) (pc : Nat) (rt : Option FieldType) : Option OV → Prop
  | none => rt = none ∧ decode cc pc = .ok (.return_, 1)
  | some (.inl x) => (∃ ty, rt = some ty ∧ narrow ty (.int x) = .int x) ∧ decode cc pc = .ok (.ireturn, 1)
  | some (.inr _) => (∃ t, rt = some (.array t)) ∧ decode cc pc = .ok (.areturn, 1)
def RetOK (G : Gl) (A : Nat → Prop) (cc : ByteArray) (rt : Option FieldType) (Φ : Option OV → Mm → Prop) (p : Program) (l : Launch) (e : Env) (R : Room) (s : State) (m : MethodId) (args : Array Value) (below : List Frame) (meth : Method) (c : Code) (cells slots : Nat) (Z : State → Prop) : Prop :=
  ∀ (v : Option OV) (M : Mm) (H : Heap) (locs : List Loc) (lsA : Array Slot) (pc : Nat), Φ v M → Mem G M H → va_S A s.heap H locs → retI cc pc rt v → W p l e R s m args below meth c H locs cells slots Z (F0 m pc lsA (v.toList.map (vlv G)))
def AW (G : Gl) (cc : ByteArray) (own : String) (nL fr lo : Nat) (rt : Option FieldType) (Φ : Option OV → Mm → Prop) (pc : Nat) (ls : List (Option OV)) (st : List OV) (M : Mm) : Prop :=
  ∀ (A : Nat → Prop) (p : Program) (l : Launch) (e : Env) (R : Room) (s : State) (m : MethodId) (args : Array Value) (below : List Frame) (meth : Method) (c : Code) (cells slots : Nat) (Z : State → Prop) (H : Heap) (locs : List Loc) (lsA : Array Slot),
    FrOK G A cc own nL fr lo p R s m c cells slots → RetOK G A cc rt Φ p l e R s m args below meth c cells slots Z → Mem G M H → va_S A s.heap H locs → Lh G lsA nL ls →
    W p l e R s m args below meth c H locs cells slots Z (F0 m pc lsA (st.map (vlv G)))
def PC (G : Gl) (av : List OV) (M : Mm) : Array Value → State → Prop := va_Pc (av.map (vlv G)) (fun U => Mem G M U.heap ∧ KK G U ∧ SS G (AG G) U U.heap)
def QC (G : Gl) (Φ : Option OV → Mm → Prop) : Array Value → State → Outcome → State → Prop := fun _ st oc t => (∃ (v : Option OV) (M' : Mm), oc = .returned (v.map (vlv G)) ∧ Φ v M' ∧ Mem G M' t.heap) ∧ va_F (AG G) st t
/-- a method's contract -/
def Ct (y : MethodName) (cc : ByteArray) (maxL : Nat) (rt : Option FieldType) (fr lo : Nat) (av : List OV) (M : Mm) (Φ : Option OV → Mm → Prop) : Prop :=
  ∀ (G : Gl) (l : Launch), GI G → Met l y [.code y cc maxL rt] { frames := fr, cells := 0, slots := 0, locals := lo } (PC G av M) (QC G Φ) 0 0 (AG G)
theorem vlv_cat (G : Gl) (v : OV) : (vlv G v).category = 1 := by cases v <;> rfl
theorem lg_sl_vlv (G : Gl) (av : List OV) : lg_sl (av.map (vlv G)) = av.map (fun v => Slot.val (vlv G v)) := by
  induction av with
  | nil => rfl
  | cons a t ih =>
    have h1 : lg_sl (List.map (vlv G) (a :: t)) = [Slot.val (vlv G a)] ++ lg_sl (List.map (vlv G) t) := by
      simp [lg_sl, vlv_cat]
    rw [h1, ih]; rfl
theorem Lh.entry (G : Gl) {av : List OV} {nL : Nat} (h : av.length ≤ nL) : Lh G (lg_sl (av.map (vlv G)) ++ List.replicate (nL - (lg_sl (av.map (vlv G))).length) Slot.unset).toArray nL (av.map some ++ List.replicate (nL - av.length) none) := by
  have h0 : (lg_sl (av.map (vlv G))).length = av.length := by rw [lg_sl_vlv, List.length_map]
  have h1 := lv_entry (av.map (vlv G)) (n := nL) (by rw [h0]; exact h)
  refine ⟨h1.1, by simp; omega, h1.2.1, fun i v hv => ?_⟩
  have hi : i < av.length := by
    rcases Nat.lt_or_ge i av.length with q | q
    · exact q
    · rw [List.getElem?_append_right (by simp; exact q)] at hv
      have := List.eq_of_mem_replicate (List.mem_of_getElem? hv)
      cases this
  rw [List.getElem?_append_left (by simp; exact hi), List.getElem?_map] at hv
  rw [lg_sl_vlv, List.getElem?_toArray, List.getElem?_append_left (by simp; exact hi), List.getElem?_map]
  cases ha : av[i]? with
  | none => rw [ha] at hv; cases hv
  | some a =>
    rw [ha] at hv
    cases hv
    rfl
theorem Lh.set {G : Gl} {lsA : Array Slot} {nL : Nat} {ls : List (Option OV)} (h : Lh G lsA nL ls) {i : Nat} (hi : i < nL) (v : OV) : ∃ lsA', storeLocals lsA i (vlv G v) = some lsA' ∧ Lh G lsA' nL (ls.set i (some v)) := by
  obtain ⟨h1, h2, h3, h4⟩ := h
  let l : List (Nat × Value) := (List.range nL).filterMap (fun j => match ls[j]? with | some (some w) => some (j, vlv G w) | _ => none)
  have hl : lv_has lsA nL l := by
    refine ⟨h1, h3, fun q hq => ?_⟩
    obtain ⟨j, -, hj⟩ := List.mem_filterMap.mp hq
    cases hw : ls[j]? with
    | none => rw [hw] at hj; cases hj
    | some o =>
      rw [hw] at hj
      cases o with
      | none => cases hj
      | some w => cases hj; exact h4 j w hw
  obtain ⟨ls', e1, e2⟩ := lv_store1 hl hi (vlv_cat G v)
  refine ⟨ls', e1, e2.1, by simp [h2], e2.2.1, fun j w hj => ?_⟩
  by_cases hji : j = i
  · subst hji
    rw [List.getElem?_set_self (by omega)] at hj
    cases hj
    exact e2.2.2 (j, vlv G v) List.mem_cons_self
  · rw [List.getElem?_set_ne (Ne.symm hji)] at hj
    refine e2.2.2 (j, vlv G w) (List.mem_cons_of_mem _ (List.mem_filter.mpr ⟨List.mem_filterMap.mpr ⟨j, List.mem_range.mpr ?_, by rw [hj]⟩, ?_⟩))
    · rw [← h2]; exact (List.getElem?_eq_some_iff.mp hj).1
    · simp [vlv_cat, hji]
set_option maxHeartbeats 1000000 in
/-- a contract out of a walk -/
theorem Ct.of {y : MethodName} {cc : ByteArray} {maxL : Nat} {rt : Option FieldType} {fr lo : Nat} {av : List OV} {M : Mm} {Φ : Option OV → Mm → Prop} (hy : plainName y.cls = true) (hn : av.length ≤ maxL) (ls : List (Option OV)) (hls : av.map some ++ List.replicate (maxL - av.length) none = ls)
    (k : ∀ G, AW G cc y.cls maxL fr lo rt Φ 0 ls [] M) : Ct y cc maxL rt fr lo av M Φ := by
  intro G l hGI
  subst hls
  refine Met.ofW (cc := cc) (maxL := maxL) (ret := rt) hy rfl ?_
  intro p e s m args below meth c s₁ B hml hv
  obtain ⟨rfl, hM, hK, hSS⟩ := hv
  have hr := B.returns
  have hb := B.bytes
  have hx := B.exec
  have hlocks := B.notSynchronized
  have hown : s.vm.findClass y.cls = some m.cls := findClass_of_methodNamed B.named
  rw [lg_entry_eq]
  refine k G (AG G) p l e _ s m _ below meth c 0 0 _ s.heap [] _ ⟨hx, hb, hml, hown, Nat.le_refl _, Nat.le_refl _, Nat.zero_le _, Nat.zero_le _, hK, hSS, hGI, fun _ h => h⟩ ?_ hM va_S.rf (Lh.entry G hn)
  intro v M' H' locs' lsA' pc' hΦ hM' hS' hret
  cases v with
  | none =>
    obtain ⟨hrt, hd⟩ := hret
    exact W.vret hx hb (hr.trans hrt) (fun t ht hW => ⟨⟨none, M', rfl, hΦ, by rw [ht]; exact hM'⟩, hS'.F ht⟩) hS'.2.2 hd
  | some v =>
    cases v with
    | inl z =>
      obtain ⟨⟨ty, hrt, hnar⟩, hd⟩ := hret
      exact W.zret (v := z) hx hb (hr.trans hrt) hnar (fun t ht hW => ⟨⟨some (.inl z), M', rfl, hΦ, by rw [ht]; exact hM'⟩, hS'.F ht⟩) hS'.2.2 hd
    | inr o =>
      obtain ⟨⟨ty, hrt⟩, hd⟩ := hret
      exact W.aret (v := .ref (G.2.1 o)) hx hb (hr.trans hrt) (Or.inr ⟨ty, rfl⟩) (Or.inr ⟨_, rfl⟩) (fun t ht hW => ⟨⟨some (.inr o), M', rfl, hΦ, by rw [ht]; exact hM'⟩, hS'.F ht⟩) hS'.2.2 hd
theorem SS.at {G : Gl} {A : Nat → Prop} {s : State} {H : Heap} {locs : List Loc} (h : SS G A s s.heap) (hS : va_S A s.heap H locs) : SS G A s H := ⟨h.1.kept (fun a h1 h2 => hS.2.1 a h1 h2), h.2.kept (fun a h1 h2 => hS.2.1 a h1 h2)⟩
theorem SS.narrow {G : Gl} {A B : Nat → Prop} {U : State} {H : Heap} (h : SS G A U H) (hAB : ∀ q, B q → A q) : SS G B U H := ⟨va_Z.narrow h.1 hAB, va_T.narrow h.2 hAB⟩
theorem SS.warm {G : Gl} {A : Nat → Prop} {s U : State} {H : Heap} (h : SS G A s H) (hW : s.WarmedH U.vm) : SS G A U H := ⟨va_Z.moved hW.alike h.1, va_T.moved hW.alike h.2⟩
theorem PC.blind (G : Gl) (av : List OV) (M : Mm) : FrameBlind (PC G av M) := by
  intro a U g mk h
  obtain ⟨h1, h2, h3, h4⟩ := h
  exact ⟨h1, h2, ⟨va_K.moved (u := U) (U := U.calling g mk a) (Vm.Alike.refl U.vm) h3.1, fun w hw ho => wOK_warm (s := U) (U := U.calling g mk a) ho (State.WarmedH.refl U) (h3.2 w hw ho)⟩, ⟨va_Z.moved (u := U) (U := U.calling g mk a) (Vm.Alike.refl U.vm) h4.1, va_T.moved (u := U) (U := U.calling g mk a) (Vm.Alike.refl U.vm) h4.2⟩⟩
end
section
section Rows
variable {G : Gl} {cc : ByteArray} {own : String} {nL fr lo : Nat} {rt : Option FieldType} {Φ : Option OV → Mm → Prop} {pc pc' : Nat} {ls : List (Option OV)} {st : List OV} {M : Mm}
theorem wUse {w : Cond} {args : Array Value} {s : State} (h : wOK w = true) (hz : va_Nw w s) : w.before args s = true := by
  cases w with
  | fieldLinkNest a i b n d hh => exact va_Nw.use rfl hz
  | methodLinkNest a i x hh => exact va_Nw.use rfl hz
  | arrayOver t => exact hz
  | arrayClass t => exact hz
  | _ =>
    simp only [wOK, goodWord, Bool.and_eq_true] at h
    exact va_Nw.use h.1 hz
theorem FrOK.use {A : Nat → Prop} {p : Program} {R : Room} {s : State} {m : MethodId} {c : Code} {cells slots : Nat} (hF : FrOK G A cc own nL fr lo p R s m c cells slots) {w : Cond} {args : Array Value} (h : w ∈ lw_tbl) (ho : wOK w = true) : w.before args s = true := wUse ho (hF.2.2.2.2.2.2.2.2.1.2 w h ho)
theorem u_ws_ok {C : String} {T : u_T} {N : Nat} : ∀ w ∈ u_ws C T N, wOK w = true := by
  intro w hw
  obtain ⟨k, -, rfl⟩ := List.mem_map.mp hw
  unfold u_lay
  split <;> rfl

theorem a_iconst {n : Int} {v : Int32} (hd : decode cc pc = .ok (.iconst n, 1)) (hv : Int32.ofInt n = v) (hp : pc + 1 = pc') (kk : AW G cc own nL fr lo rt Φ pc' ls (.inl v :: st) M) : AW G cc own nL fr lo rt Φ pc ls st M := by
  subst hp
  intro A p l e R s m args below meth c cells slots Z H locs lsA hF hR hM hS hL
  exact lv_iconst hF.1 hF.2.1 hd hv (kk A p l e R s m args below meth c cells slots Z H locs lsA hF hR hM hS hL)
theorem a_bipush {n : Int} {v : Int32} (hd : decode cc pc = .ok (.bipush n, 2)) (hv : (Int8.ofInt n).toInt32 = v) (hp : pc + 2 = pc') (kk : AW G cc own nL fr lo rt Φ pc' ls (.inl v :: st) M) : AW G cc own nL fr lo rt Φ pc ls st M := by
  subst hp
  intro A p l e R s m args below meth c cells slots Z H locs lsA hF hR hM hS hL
  exact lv_bipush hF.1 hF.2.1 hd hv (kk A p l e R s m args below meth c cells slots Z H locs lsA hF hR hM hS hL)
theorem a_sipush {n : Int} {v : Int32} (hd : decode cc pc = .ok (.sipush n, 3)) (hv : (Int16.ofInt n).toInt32 = v) (hp : pc + 3 = pc') (kk : AW G cc own nL fr lo rt Φ pc' ls (.inl v :: st) M) : AW G cc own nL fr lo rt Φ pc ls st M := by
  subst hp
  intro A p l e R s m args below meth c cells slots Z H locs lsA hF hR hM hS hL
  exact lv_sipush hF.1 hF.2.1 hd hv (kk A p l e R s m args below meth c cells slots Z H locs lsA hF hR hM hS hL)
theorem a_ldc {index : Nat} {v : Int32} (hd : decode cc pc = .ok (.ldc index, 2)) (hw : Cond.constant own index v ∈ lw_tbl) (hp : pc + 2 = pc') (kk : AW G cc own nL fr lo rt Φ pc' ls (.inl v :: st) M) : AW G cc own nL fr lo rt Φ pc ls st M := by
  subst hp
  intro A p l e R s m args below meth c cells slots Z H locs lsA hF hR hM hS hL
  exact lv_ldc hF.1 hF.2.1 hF.2.2.2.1 (hF.use hw rfl) hd (kk A p l e R s m args below meth c cells slots Z H locs lsA hF hR hM hS hL)
theorem a_ldc_w {index : Nat} {v : Int32} (hd : decode cc pc = .ok (.ldc_w index, 3)) (hw : Cond.constant own index v ∈ lw_tbl) (hp : pc + 3 = pc') (kk : AW G cc own nL fr lo rt Φ pc' ls (.inl v :: st) M) : AW G cc own nL fr lo rt Φ pc ls st M := by
  subst hp
  intro A p l e R s m args below meth c cells slots Z H locs lsA hF hR hM hS hL
  exact lv_ldcw hF.1 hF.2.1 hF.2.2.2.1 (hF.use hw rfl) hd (kk A p l e R s m args below meth c cells slots Z H locs lsA hF hR hM hS hL)
theorem a_iadd {x y : Int32} (hd : decode cc pc = .ok (.iadd, 1)) (hp : pc + 1 = pc') (kk : AW G cc own nL fr lo rt Φ pc' ls (.inl (x + y) :: st) M) : AW G cc own nL fr lo rt Φ pc ls (.inl y :: .inl x :: st) M := by
  subst hp
  intro A p l e R s m args below meth c cells slots Z H locs lsA hF hR hM hS hL
  exact lv_iadd hF.1 hF.2.1 hd (kk A p l e R s m args below meth c cells slots Z H locs lsA hF hR hM hS hL)
theorem a_isub {x y : Int32} (hd : decode cc pc = .ok (.isub, 1)) (hp : pc + 1 = pc') (kk : AW G cc own nL fr lo rt Φ pc' ls (.inl (x - y) :: st) M) : AW G cc own nL fr lo rt Φ pc ls (.inl y :: .inl x :: st) M := by
  subst hp
  intro A p l e R s m args below meth c cells slots Z H locs lsA hF hR hM hS hL
  exact lv_isub hF.1 hF.2.1 hd (kk A p l e R s m args below meth c cells slots Z H locs lsA hF hR hM hS hL)
theorem a_imul {x y : Int32} (hd : decode cc pc = .ok (.imul, 1)) (hp : pc + 1 = pc') (kk : AW G cc own nL fr lo rt Φ pc' ls (.inl (x * y) :: st) M) : AW G cc own nL fr lo rt Φ pc ls (.inl y :: .inl x :: st) M := by
  subst hp
  intro A p l e R s m args below meth c cells slots Z H locs lsA hF hR hM hS hL
  exact lv_imul hF.1 hF.2.1 hd (kk A p l e R s m args below meth c cells slots Z H locs lsA hF hR hM hS hL)
theorem a_iand {x y : Int32} (hd : decode cc pc = .ok (.iand, 1)) (hp : pc + 1 = pc') (kk : AW G cc own nL fr lo rt Φ pc' ls (.inl (x &&& y) :: st) M) : AW G cc own nL fr lo rt Φ pc ls (.inl y :: .inl x :: st) M := by
  subst hp
  intro A p l e R s m args below meth c cells slots Z H locs lsA hF hR hM hS hL
  exact lv_iand hF.1 hF.2.1 hd (kk A p l e R s m args below meth c cells slots Z H locs lsA hF hR hM hS hL)
theorem a_ior {x y : Int32} (hd : decode cc pc = .ok (.ior, 1)) (hp : pc + 1 = pc') (kk : AW G cc own nL fr lo rt Φ pc' ls (.inl (x ||| y) :: st) M) : AW G cc own nL fr lo rt Φ pc ls (.inl y :: .inl x :: st) M := by
  subst hp
  intro A p l e R s m args below meth c cells slots Z H locs lsA hF hR hM hS hL
  exact lv_ior hF.1 hF.2.1 hd (kk A p l e R s m args below meth c cells slots Z H locs lsA hF hR hM hS hL)
theorem a_ixor {x y : Int32} (hd : decode cc pc = .ok (.ixor, 1)) (hp : pc + 1 = pc') (kk : AW G cc own nL fr lo rt Φ pc' ls (.inl (x ^^^ y) :: st) M) : AW G cc own nL fr lo rt Φ pc ls (.inl y :: .inl x :: st) M := by
  subst hp
  intro A p l e R s m args below meth c cells slots Z H locs lsA hF hR hM hS hL
  exact lv_ixor hF.1 hF.2.1 hd (kk A p l e R s m args below meth c cells slots Z H locs lsA hF hR hM hS hL)
theorem a_ishl {x y : Int32} (hd : decode cc pc = .ok (.ishl, 1)) (hp : pc + 1 = pc') (kk : AW G cc own nL fr lo rt Φ pc' ls (.inl (x <<< (y &&& 31)) :: st) M) : AW G cc own nL fr lo rt Φ pc ls (.inl y :: .inl x :: st) M := by
  subst hp
  intro A p l e R s m args below meth c cells slots Z H locs lsA hF hR hM hS hL
  exact lv_ishl hF.1 hF.2.1 hd (kk A p l e R s m args below meth c cells slots Z H locs lsA hF hR hM hS hL)
theorem a_ishr {x y : Int32} (hd : decode cc pc = .ok (.ishr, 1)) (hp : pc + 1 = pc') (kk : AW G cc own nL fr lo rt Φ pc' ls (.inl (x >>> (y &&& 31)) :: st) M) : AW G cc own nL fr lo rt Φ pc ls (.inl y :: .inl x :: st) M := by
  subst hp
  intro A p l e R s m args below meth c cells slots Z H locs lsA hF hR hM hS hL
  exact lv_ishr hF.1 hF.2.1 hd (kk A p l e R s m args below meth c cells slots Z H locs lsA hF hR hM hS hL)
theorem a_idiv {x y : Int32} (hd : decode cc pc = .ok (.idiv, 1)) (hy : ¬ y = 0) (hp : pc + 1 = pc') (kk : AW G cc own nL fr lo rt Φ pc' ls (.inl (x / y) :: st) M) : AW G cc own nL fr lo rt Φ pc ls (.inl y :: .inl x :: st) M := by
  subst hp
  intro A p l e R s m args below meth c cells slots Z H locs lsA hF hR hM hS hL
  exact lv_idiv hF.1 hF.2.1 hd hy (kk A p l e R s m args below meth c cells slots Z H locs lsA hF hR hM hS hL)
theorem a_irem {x y : Int32} (hd : decode cc pc = .ok (.irem, 1)) (hy : ¬ y = 0) (hp : pc + 1 = pc') (kk : AW G cc own nL fr lo rt Φ pc' ls (.inl (x - x / y * y) :: st) M) : AW G cc own nL fr lo rt Φ pc ls (.inl y :: .inl x :: st) M := by
  subst hp
  intro A p l e R s m args below meth c cells slots Z H locs lsA hF hR hM hS hL
  exact lv_irem hF.1 hF.2.1 hd hy (kk A p l e R s m args below meth c cells slots Z H locs lsA hF hR hM hS hL)
theorem a_ineg {x : Int32} (hd : decode cc pc = .ok (.ineg, 1)) (hp : pc + 1 = pc') (kk : AW G cc own nL fr lo rt Φ pc' ls (.inl (-x) :: st) M) : AW G cc own nL fr lo rt Φ pc ls (.inl x :: st) M := by
  subst hp
  intro A p l e R s m args below meth c cells slots Z H locs lsA hF hR hM hS hL
  exact lv_ineg hF.1 hF.2.1 hd (kk A p l e R s m args below meth c cells slots Z H locs lsA hF hR hM hS hL)
theorem a_iushr {x y : Int32} (hd : decode cc pc = .ok (.iushr, 1)) (hp : pc + 1 = pc') (kk : AW G cc own nL fr lo rt Φ pc' ls (.inl ((x.toUInt32 >>> (y.toUInt32 &&& Int32.toUInt32 31)).toInt32) :: st) M) : AW G cc own nL fr lo rt Φ pc ls (.inl y :: .inl x :: st) M := by
  subst hp
  intro A p l e R s m args below meth c cells slots Z H locs lsA hF hR hM hS hL
  exact lv_iushr hF.1 hF.2.1 hd rfl (kk A p l e R s m args below meth c cells slots Z H locs lsA hF hR hM hS hL)
theorem a_i2c {x : Int32} (hd : decode cc pc = .ok (.i2c, 1)) (hp : pc + 1 = pc') (kk : AW G cc own nL fr lo rt Φ pc' ls (.inl ((x.toUInt32 % 65536).toInt32) :: st) M) : AW G cc own nL fr lo rt Φ pc ls (.inl x :: st) M := by
  subst hp
  intro A p l e R s m args below meth c cells slots Z H locs lsA hF hR hM hS hL
  exact lv_i2c hF.1 hF.2.1 hd rfl (kk A p l e R s m args below meth c cells slots Z H locs lsA hF hR hM hS hL)
theorem a_dup {x : OV} (hd : decode cc pc = .ok (.dup, 1)) (hp : pc + 1 = pc') (kk : AW G cc own nL fr lo rt Φ pc' ls (x :: x :: st) M) : AW G cc own nL fr lo rt Φ pc ls (x :: st) M := by
  subst hp
  intro A p l e R s m args below meth c cells slots Z H locs lsA hF hR hM hS hL
  exact lv_dup hF.1 hF.2.1 hd (vlv_cat G x) (kk A p l e R s m args below meth c cells slots Z H locs lsA hF hR hM hS hL)
theorem a_pop {x : OV} (hd : decode cc pc = .ok (.pop, 1)) (hp : pc + 1 = pc') (kk : AW G cc own nL fr lo rt Φ pc' ls st M) : AW G cc own nL fr lo rt Φ pc ls (x :: st) M := by
  subst hp
  intro A p l e R s m args below meth c cells slots Z H locs lsA hF hR hM hS hL
  exact lv_pop hF.1 hF.2.1 hd (vlv_cat G x) (kk A p l e R s m args below meth c cells slots Z H locs lsA hF hR hM hS hL)
theorem a_dup2 {x y : OV} (hd : decode cc pc = .ok (.dup2, 1)) (hp : pc + 1 = pc') (kk : AW G cc own nL fr lo rt Φ pc' ls (x :: y :: x :: y :: st) M) : AW G cc own nL fr lo rt Φ pc ls (x :: y :: st) M := by
  subst hp
  intro A p l e R s m args below meth c cells slots Z H locs lsA hF hR hM hS hL
  exact lv_dup2_11 hF.1 hF.2.1 hd (vlv_cat G x) (vlv_cat G y) (kk A p l e R s m args below meth c cells slots Z H locs lsA hF hR hM hS hL)
theorem a_if_eq {x : Int32} {off : Int} {tgt : Nat} (hd : decode cc pc = .ok (.ifCond .eq off, 3)) (ht : (pc : Int) + off = (tgt : Int)) (hp : pc + 3 = pc') (kt : x = 0 → AW G cc own nL fr lo rt Φ tgt ls st M) (kf : ¬ x = 0 → AW G cc own nL fr lo rt Φ pc' ls st M) : AW G cc own nL fr lo rt Φ pc ls (.inl x :: st) M := by
  subst hp
  intro A p l e R s m args below meth c cells slots Z H locs lsA hF hR hM hS hL
  exact lv_if_eq hF.1 hF.2.1 hd ht (fun z => kt z A p l e R s m args below meth c cells slots Z H locs lsA hF hR hM hS hL) (fun z => kf z A p l e R s m args below meth c cells slots Z H locs lsA hF hR hM hS hL)
theorem a_icmp_eq {x y : Int32} {off : Int} {tgt : Nat} (hd : decode cc pc = .ok (.if_icmp .eq off, 3)) (ht : (pc : Int) + off = (tgt : Int)) (hp : pc + 3 = pc') (kt : x = y → AW G cc own nL fr lo rt Φ tgt ls st M) (kf : ¬ x = y → AW G cc own nL fr lo rt Φ pc' ls st M) : AW G cc own nL fr lo rt Φ pc ls (.inl y :: .inl x :: st) M := by
  subst hp
  intro A p l e R s m args below meth c cells slots Z H locs lsA hF hR hM hS hL
  exact lv_icmp_eq hF.1 hF.2.1 hd ht (fun z => kt z A p l e R s m args below meth c cells slots Z H locs lsA hF hR hM hS hL) (fun z => kf z A p l e R s m args below meth c cells slots Z H locs lsA hF hR hM hS hL)
theorem a_if_ne {x : Int32} {off : Int} {tgt : Nat} (hd : decode cc pc = .ok (.ifCond .ne off, 3)) (ht : (pc : Int) + off = (tgt : Int)) (hp : pc + 3 = pc') (kt : ¬ x = 0 → AW G cc own nL fr lo rt Φ tgt ls st M) (kf : x = 0 → AW G cc own nL fr lo rt Φ pc' ls st M) : AW G cc own nL fr lo rt Φ pc ls (.inl x :: st) M := by
  subst hp
  intro A p l e R s m args below meth c cells slots Z H locs lsA hF hR hM hS hL
  exact lv_if_ne hF.1 hF.2.1 hd ht (fun z => kt z A p l e R s m args below meth c cells slots Z H locs lsA hF hR hM hS hL) (fun z => kf z A p l e R s m args below meth c cells slots Z H locs lsA hF hR hM hS hL)
theorem a_icmp_ne {x y : Int32} {off : Int} {tgt : Nat} (hd : decode cc pc = .ok (.if_icmp .ne off, 3)) (ht : (pc : Int) + off = (tgt : Int)) (hp : pc + 3 = pc') (kt : ¬ x = y → AW G cc own nL fr lo rt Φ tgt ls st M) (kf : x = y → AW G cc own nL fr lo rt Φ pc' ls st M) : AW G cc own nL fr lo rt Φ pc ls (.inl y :: .inl x :: st) M := by
  subst hp
  intro A p l e R s m args below meth c cells slots Z H locs lsA hF hR hM hS hL
  exact lv_icmp_ne hF.1 hF.2.1 hd ht (fun z => kt z A p l e R s m args below meth c cells slots Z H locs lsA hF hR hM hS hL) (fun z => kf z A p l e R s m args below meth c cells slots Z H locs lsA hF hR hM hS hL)
theorem a_if_lt {x : Int32} {off : Int} {tgt : Nat} (hd : decode cc pc = .ok (.ifCond .lt off, 3)) (ht : (pc : Int) + off = (tgt : Int)) (hp : pc + 3 = pc') (kt : x < 0 → AW G cc own nL fr lo rt Φ tgt ls st M) (kf : ¬ x < 0 → AW G cc own nL fr lo rt Φ pc' ls st M) : AW G cc own nL fr lo rt Φ pc ls (.inl x :: st) M := by
  subst hp
  intro A p l e R s m args below meth c cells slots Z H locs lsA hF hR hM hS hL
  exact lv_if_lt hF.1 hF.2.1 hd ht (fun z => kt z A p l e R s m args below meth c cells slots Z H locs lsA hF hR hM hS hL) (fun z => kf z A p l e R s m args below meth c cells slots Z H locs lsA hF hR hM hS hL)
theorem a_icmp_lt {x y : Int32} {off : Int} {tgt : Nat} (hd : decode cc pc = .ok (.if_icmp .lt off, 3)) (ht : (pc : Int) + off = (tgt : Int)) (hp : pc + 3 = pc') (kt : x < y → AW G cc own nL fr lo rt Φ tgt ls st M) (kf : ¬ x < y → AW G cc own nL fr lo rt Φ pc' ls st M) : AW G cc own nL fr lo rt Φ pc ls (.inl y :: .inl x :: st) M := by
  subst hp
  intro A p l e R s m args below meth c cells slots Z H locs lsA hF hR hM hS hL
  exact lv_icmp_lt hF.1 hF.2.1 hd ht (fun z => kt z A p l e R s m args below meth c cells slots Z H locs lsA hF hR hM hS hL) (fun z => kf z A p l e R s m args below meth c cells slots Z H locs lsA hF hR hM hS hL)
theorem a_if_ge {x : Int32} {off : Int} {tgt : Nat} (hd : decode cc pc = .ok (.ifCond .ge off, 3)) (ht : (pc : Int) + off = (tgt : Int)) (hp : pc + 3 = pc') (kt : 0 ≤ x → AW G cc own nL fr lo rt Φ tgt ls st M) (kf : ¬ 0 ≤ x → AW G cc own nL fr lo rt Φ pc' ls st M) : AW G cc own nL fr lo rt Φ pc ls (.inl x :: st) M := by
  subst hp
  intro A p l e R s m args below meth c cells slots Z H locs lsA hF hR hM hS hL
  exact lv_if_ge hF.1 hF.2.1 hd ht (fun z => kt z A p l e R s m args below meth c cells slots Z H locs lsA hF hR hM hS hL) (fun z => kf z A p l e R s m args below meth c cells slots Z H locs lsA hF hR hM hS hL)
theorem a_icmp_ge {x y : Int32} {off : Int} {tgt : Nat} (hd : decode cc pc = .ok (.if_icmp .ge off, 3)) (ht : (pc : Int) + off = (tgt : Int)) (hp : pc + 3 = pc') (kt : y ≤ x → AW G cc own nL fr lo rt Φ tgt ls st M) (kf : ¬ y ≤ x → AW G cc own nL fr lo rt Φ pc' ls st M) : AW G cc own nL fr lo rt Φ pc ls (.inl y :: .inl x :: st) M := by
  subst hp
  intro A p l e R s m args below meth c cells slots Z H locs lsA hF hR hM hS hL
  exact lv_icmp_ge hF.1 hF.2.1 hd ht (fun z => kt z A p l e R s m args below meth c cells slots Z H locs lsA hF hR hM hS hL) (fun z => kf z A p l e R s m args below meth c cells slots Z H locs lsA hF hR hM hS hL)
theorem a_if_gt {x : Int32} {off : Int} {tgt : Nat} (hd : decode cc pc = .ok (.ifCond .gt off, 3)) (ht : (pc : Int) + off = (tgt : Int)) (hp : pc + 3 = pc') (kt : 0 < x → AW G cc own nL fr lo rt Φ tgt ls st M) (kf : ¬ 0 < x → AW G cc own nL fr lo rt Φ pc' ls st M) : AW G cc own nL fr lo rt Φ pc ls (.inl x :: st) M := by
  subst hp
  intro A p l e R s m args below meth c cells slots Z H locs lsA hF hR hM hS hL
  exact lv_if_gt hF.1 hF.2.1 hd ht (fun z => kt z A p l e R s m args below meth c cells slots Z H locs lsA hF hR hM hS hL) (fun z => kf z A p l e R s m args below meth c cells slots Z H locs lsA hF hR hM hS hL)
theorem a_icmp_gt {x y : Int32} {off : Int} {tgt : Nat} (hd : decode cc pc = .ok (.if_icmp .gt off, 3)) (ht : (pc : Int) + off = (tgt : Int)) (hp : pc + 3 = pc') (kt : y < x → AW G cc own nL fr lo rt Φ tgt ls st M) (kf : ¬ y < x → AW G cc own nL fr lo rt Φ pc' ls st M) : AW G cc own nL fr lo rt Φ pc ls (.inl y :: .inl x :: st) M := by
  subst hp
  intro A p l e R s m args below meth c cells slots Z H locs lsA hF hR hM hS hL
  exact lv_icmp_gt hF.1 hF.2.1 hd ht (fun z => kt z A p l e R s m args below meth c cells slots Z H locs lsA hF hR hM hS hL) (fun z => kf z A p l e R s m args below meth c cells slots Z H locs lsA hF hR hM hS hL)
theorem a_if_le {x : Int32} {off : Int} {tgt : Nat} (hd : decode cc pc = .ok (.ifCond .le off, 3)) (ht : (pc : Int) + off = (tgt : Int)) (hp : pc + 3 = pc') (kt : x ≤ 0 → AW G cc own nL fr lo rt Φ tgt ls st M) (kf : ¬ x ≤ 0 → AW G cc own nL fr lo rt Φ pc' ls st M) : AW G cc own nL fr lo rt Φ pc ls (.inl x :: st) M := by
  subst hp
  intro A p l e R s m args below meth c cells slots Z H locs lsA hF hR hM hS hL
  exact lv_if_le hF.1 hF.2.1 hd ht (fun z => kt z A p l e R s m args below meth c cells slots Z H locs lsA hF hR hM hS hL) (fun z => kf z A p l e R s m args below meth c cells slots Z H locs lsA hF hR hM hS hL)
theorem a_icmp_le {x y : Int32} {off : Int} {tgt : Nat} (hd : decode cc pc = .ok (.if_icmp .le off, 3)) (ht : (pc : Int) + off = (tgt : Int)) (hp : pc + 3 = pc') (kt : x ≤ y → AW G cc own nL fr lo rt Φ tgt ls st M) (kf : ¬ x ≤ y → AW G cc own nL fr lo rt Φ pc' ls st M) : AW G cc own nL fr lo rt Φ pc ls (.inl y :: .inl x :: st) M := by
  subst hp
  intro A p l e R s m args below meth c cells slots Z H locs lsA hF hR hM hS hL
  exact lv_icmp_le hF.1 hF.2.1 hd ht (fun z => kt z A p l e R s m args below meth c cells slots Z H locs lsA hF hR hM hS hL) (fun z => kf z A p l e R s m args below meth c cells slots Z H locs lsA hF hR hM hS hL)
theorem a_goto {off : Int} (hd : decode cc pc = .ok (.goto off, 3)) (ht : (pc : Int) + off = (pc' : Int)) (kk : AW G cc own nL fr lo rt Φ pc' ls st M) : AW G cc own nL fr lo rt Φ pc ls st M := by
  intro A p l e R s m args below meth c cells slots Z H locs lsA hF hR hM hS hL
  exact lv_goto hF.1 hF.2.1 hd ht (kk A p l e R s m args below meth c cells slots Z H locs lsA hF hR hM hS hL)
theorem a_tswO {dflt lo1 hi : Int} {offs : Array Int} {len : Nat} {x : Int32} {tgt : Nat} (hd : decode cc pc = .ok (.tableswitch dflt lo1 hi offs, len)) (h : x.toInt < lo1 ∨ hi < x.toInt) (ht : (pc : Int) + dflt = (tgt : Int)) (kk : AW G cc own nL fr lo rt Φ tgt ls st M) : AW G cc own nL fr lo rt Φ pc ls (.inl x :: st) M := by
  intro A p l e R s m args below meth c cells slots Z H locs lsA hF hR hM hS hL
  exact lv_tableOut hF.1 hF.2.1 hd h ht (kk A p l e R s m args below meth c cells slots Z H locs lsA hF hR hM hS hL)
theorem a_tswI {dflt lo1 hi : Int} {offs : Array Int} {len : Nat} {x : Int32} {off : Int} {tgt : Nat} (hd : decode cc pc = .ok (.tableswitch dflt lo1 hi offs, len)) (h1 : ¬ x.toInt < lo1) (h2 : ¬ hi < x.toInt) (ho : offs[(x.toInt - lo1).toNat]? = some off) (ht : (pc : Int) + off = (tgt : Int)) (kk : AW G cc own nL fr lo rt Φ tgt ls st M) : AW G cc own nL fr lo rt Φ pc ls (.inl x :: st) M := by
  intro A p l e R s m args below meth c cells slots Z H locs lsA hF hR hM hS hL
  exact lv_tableIn hF.1 hF.2.1 hd h1 h2 ho ht (kk A p l e R s m args below meth c cells slots Z H locs lsA hF hR hM hS hL)
theorem a_lsw {dflt : Int} {ps : Array (Int × Int)} {len : Nat} {x : Int32} {off : Int} {tgt : Nat} (hd : decode cc pc = .ok (.lookupswitch dflt ps, len)) (hq : (ps.toList.zip (ps.toList.drop 1)).all (fun (a, next) => a.1 < next.1) = true) (ho : Op.lookupswitch.offset ps.toList dflt x.toInt = off) (ht : (pc : Int) + off = (tgt : Int)) (kk : AW G cc own nL fr lo rt Φ tgt ls st M) : AW G cc own nL fr lo rt Φ pc ls (.inl x :: st) M := by
  intro A p l e R s m args below meth c cells slots Z H locs lsA hF hR hM hS hL
  exact lv_lookup hF.1 hF.2.1 hd hq ho ht (kk A p l e R s m args below meth c cells slots Z H locs lsA hF hR hM hS hL)
theorem a_ild {i : Nat} {x : Int32} (hd : (∃ k : Fin 4, (k : Nat) = i ∧ decode cc pc = .ok (.iload_n k, 1) ∧ pc + 1 = pc') ∨ (decode cc pc = .ok (.iload i, 2) ∧ pc + 2 = pc')) (hl : ls[i]? = some (some (.inl x))) (kk : AW G cc own nL fr lo rt Φ pc' ls (.inl x :: st) M) : AW G cc own nL fr lo rt Φ pc ls st M := by
  intro A p l e R s m args below meth c cells slots Z H locs lsA hF hR hM hS hL
  rcases hd with ⟨k, hk, hd, rfl⟩ | ⟨hd, rfl⟩
  · exact lv_iload_n hF.1 hF.2.1 hd hk (hL.2.2.2 i _ hl) (kk A p l e R s m args below meth c cells slots Z H locs lsA hF hR hM hS hL)
  · exact lv_iload hF.1 hF.2.1 hd (hL.2.2.2 i _ hl) (kk A p l e R s m args below meth c cells slots Z H locs lsA hF hR hM hS hL)
theorem a_ald {i : Nat} {x : Obj} (hd : (∃ k : Fin 4, (k : Nat) = i ∧ decode cc pc = .ok (.aload_n k, 1) ∧ pc + 1 = pc') ∨ (decode cc pc = .ok (.aload i, 2) ∧ pc + 2 = pc')) (hl : ls[i]? = some (some (.inr x))) (kk : AW G cc own nL fr lo rt Φ pc' ls (.inr x :: st) M) : AW G cc own nL fr lo rt Φ pc ls st M := by
  intro A p l e R s m args below meth c cells slots Z H locs lsA hF hR hM hS hL
  rcases hd with ⟨k, hk, hd, rfl⟩ | ⟨hd, rfl⟩
  · exact lv_aload_n hF.1 hF.2.1 hd hk (hL.2.2.2 i _ hl) (kk A p l e R s m args below meth c cells slots Z H locs lsA hF hR hM hS hL)
  · exact lv_aload hF.1 hF.2.1 hd (hL.2.2.2 i _ hl) (kk A p l e R s m args below meth c cells slots Z H locs lsA hF hR hM hS hL)
theorem w_istore {p : Program} {l : Launch} {e : Env} {R : Room} {s : State} {m : MethodId} {args : Array Value} {below : List Frame} {meth : Method} {c : Code} {H : Heap} {locs : List Loc} {cells slots : Nat} {Q : State → Prop} {lsA lsB : Array Slot} {rest : List Value} (hexec : p.tables.exec = Jvm.exec) (hb : c.code = cc) {i : Nat} {x : Int32} (hd : (∃ k : Fin 4, (k : Nat) = i ∧ decode cc pc = .ok (.istore_n k, 1) ∧ pc + 1 = pc') ∨ (decode cc pc = .ok (.istore i, 2) ∧ pc + 2 = pc')) (hs : storeLocals lsA i (.int x) = some lsB)
    (k : W p l e R s m args below meth c H locs cells slots Q (F0 m pc' lsB rest)) : W p l e R s m args below meth c H locs cells slots Q (F0 m pc lsA (.int x :: rest)) := by
  intro T hT X
  obtain ⟨t, a, b⟩ := k T hT X
  refine ⟨t, ?_, b⟩
  rcases hd with ⟨k, rfl, hd, rfl⟩ | ⟨hd, rfl⟩
  · jvm_step X.here [X.here.top, hexec, hb, hd, hs]
    exact a
  · jvm_step X.here [X.here.top, hexec, hb, hd, hs]
    exact a
theorem w_astore {p : Program} {l : Launch} {e : Env} {R : Room} {s : State} {m : MethodId} {args : Array Value} {below : List Frame} {meth : Method} {c : Code} {H : Heap} {locs : List Loc} {cells slots : Nat} {Q : State → Prop} {lsA lsB : Array Slot} {rest : List Value} (hexec : p.tables.exec = Jvm.exec) (hb : c.code = cc) {i : Nat} {x : Nat} (hd : (∃ k : Fin 4, (k : Nat) = i ∧ decode cc pc = .ok (.astore_n k, 1) ∧ pc + 1 = pc') ∨ (decode cc pc = .ok (.astore i, 2) ∧ pc + 2 = pc')) (hs : storeLocals lsA i (.ref x) = some lsB)
    (k : W p l e R s m args below meth c H locs cells slots Q (F0 m pc' lsB rest)) : W p l e R s m args below meth c H locs cells slots Q (F0 m pc lsA (.ref x :: rest)) := by
  intro T hT X
  obtain ⟨t, a, b⟩ := k T hT X
  refine ⟨t, ?_, b⟩
  rcases hd with ⟨k, rfl, hd, rfl⟩ | ⟨hd, rfl⟩
  · jvm_step X.here [X.here.top, hexec, hb, hd, hs]
    exact ⟨rfl, a⟩
  · jvm_step X.here [X.here.top, hexec, hb, hd, hs]
    exact ⟨rfl, a⟩
theorem w_iinc {p : Program} {l : Launch} {e : Env} {R : Room} {s : State} {m : MethodId} {args : Array Value} {below : List Frame} {meth : Method} {c : Code} {H : Heap} {locs : List Loc} {cells slots : Nat} {Q : State → Prop} {lsA lsB : Array Slot} {rest : List Value} (hexec : p.tables.exec = Jvm.exec) (hb : c.code = cc) {i : Nat} {n : Int} {x : Int32} (hd : decode cc pc = .ok (.iinc i n, 3)) (hl : lsA[i]? = some (.val (.int x))) (hs : storeLocals lsA i (.int (x + Int32.ofInt n)) = some lsB)
    (k : W p l e R s m args below meth c H locs cells slots Q (F0 m (pc + 3) lsB rest)) : W p l e R s m args below meth c H locs cells slots Q (F0 m pc lsA rest) := by
  intro T hT X
  obtain ⟨t, a, b⟩ := k T hT X
  refine ⟨t, ?_, b⟩
  jvm_step X.here [X.here.top, hexec, hb, hd, hl, hs]
  exact a
theorem a_ist {i : Nat} {x : Int32} (hi : i < nL) (hd : (∃ k : Fin 4, (k : Nat) = i ∧ decode cc pc = .ok (.istore_n k, 1) ∧ pc + 1 = pc') ∨ (decode cc pc = .ok (.istore i, 2) ∧ pc + 2 = pc')) (kk : AW G cc own nL fr lo rt Φ pc' (ls.set i (some (.inl x))) st M) : AW G cc own nL fr lo rt Φ pc ls (.inl x :: st) M := by
  intro A p l e R s m args below meth c cells slots Z H locs lsA hF hR hM hS hL
  obtain ⟨lsB, e1, hL2⟩ := hL.set hi (.inl x)
  exact w_istore hF.1 hF.2.1 hd e1 (kk A p l e R s m args below meth c cells slots Z H locs lsB hF hR hM hS hL2)
theorem a_ast {i : Nat} {x : Obj} (hi : i < nL) (hd : (∃ k : Fin 4, (k : Nat) = i ∧ decode cc pc = .ok (.astore_n k, 1) ∧ pc + 1 = pc') ∨ (decode cc pc = .ok (.astore i, 2) ∧ pc + 2 = pc')) (kk : AW G cc own nL fr lo rt Φ pc' (ls.set i (some (.inr x))) st M) : AW G cc own nL fr lo rt Φ pc ls (.inr x :: st) M := by
  intro A p l e R s m args below meth c cells slots Z H locs lsA hF hR hM hS hL
  obtain ⟨lsB, e1, hL2⟩ := hL.set hi (.inr x)
  exact w_astore hF.1 hF.2.1 hd e1 (kk A p l e R s m args below meth c cells slots Z H locs lsB hF hR hM hS hL2)
theorem a_inc {i : Nat} {n : Int} {x y : Int32} (hi : i < nL) (hd : decode cc pc = .ok (.iinc i n, 3)) (hl : ls[i]? = some (some (.inl x))) (hv : x + Int32.ofInt n = y) (hp : pc + 3 = pc') (kk : AW G cc own nL fr lo rt Φ pc' (ls.set i (some (.inl y))) st M) : AW G cc own nL fr lo rt Φ pc ls st M := by
  subst hp
  subst hv
  intro A p l e R s m args below meth c cells slots Z H locs lsA hF hR hM hS hL
  obtain ⟨lsB, e1, hL2⟩ := hL.set hi (.inl (x + Int32.ofInt n))
  exact w_iinc hF.1 hF.2.1 hd (hL.2.2.2 i _ hl) e1 (kk A p l e R s m args below meth c cells slots Z H locs lsB hF hR hM hS hL2)
theorem a_al_0_1 {x : Obj} (hd : decode cc pc = .ok (.aload_n 0, 1)) (hp : pc + 1 = pc') (kk : AW G cc own 1 fr lo rt Φ pc' [some (.inr x)] (.inr x :: st) M) : AW G cc own 1 fr lo rt Φ pc [some (.inr x)] st M := a_ald (i := 0) (Or.inl ⟨0, rfl, hd, hp⟩) rfl kk
theorem a_al_0_2 {x1 : Option OV} {x : Obj} (hd : decode cc pc = .ok (.aload_n 0, 1)) (hp : pc + 1 = pc') (kk : AW G cc own 2 fr lo rt Φ pc' [some (.inr x), x1] (.inr x :: st) M) : AW G cc own 2 fr lo rt Φ pc [some (.inr x), x1] st M := a_ald (i := 0) (Or.inl ⟨0, rfl, hd, hp⟩) rfl kk
theorem a_al_0_3 {x1 x2 : Option OV} {x : Obj} (hd : decode cc pc = .ok (.aload_n 0, 1)) (hp : pc + 1 = pc') (kk : AW G cc own 3 fr lo rt Φ pc' [some (.inr x), x1, x2] (.inr x :: st) M) : AW G cc own 3 fr lo rt Φ pc [some (.inr x), x1, x2] st M := a_ald (i := 0) (Or.inl ⟨0, rfl, hd, hp⟩) rfl kk
theorem a_al_0_4 {x1 x2 x3 : Option OV} {x : Obj} (hd : decode cc pc = .ok (.aload_n 0, 1)) (hp : pc + 1 = pc') (kk : AW G cc own 4 fr lo rt Φ pc' [some (.inr x), x1, x2, x3] (.inr x :: st) M) : AW G cc own 4 fr lo rt Φ pc [some (.inr x), x1, x2, x3] st M := a_ald (i := 0) (Or.inl ⟨0, rfl, hd, hp⟩) rfl kk
theorem a_al_0_5 {x1 x2 x3 x4 : Option OV} {x : Obj} (hd : decode cc pc = .ok (.aload_n 0, 1)) (hp : pc + 1 = pc') (kk : AW G cc own 5 fr lo rt Φ pc' [some (.inr x), x1, x2, x3, x4] (.inr x :: st) M) : AW G cc own 5 fr lo rt Φ pc [some (.inr x), x1, x2, x3, x4] st M := a_ald (i := 0) (Or.inl ⟨0, rfl, hd, hp⟩) rfl kk
theorem a_al_0_6 {x1 x2 x3 x4 x5 : Option OV} {x : Obj} (hd : decode cc pc = .ok (.aload_n 0, 1)) (hp : pc + 1 = pc') (kk : AW G cc own 6 fr lo rt Φ pc' [some (.inr x), x1, x2, x3, x4, x5] (.inr x :: st) M) : AW G cc own 6 fr lo rt Φ pc [some (.inr x), x1, x2, x3, x4, x5] st M := a_ald (i := 0) (Or.inl ⟨0, rfl, hd, hp⟩) rfl kk
theorem a_al_0_7 {x1 x2 x3 x4 x5 x6 : Option OV} {x : Obj} (hd : decode cc pc = .ok (.aload_n 0, 1)) (hp : pc + 1 = pc') (kk : AW G cc own 7 fr lo rt Φ pc' [some (.inr x), x1, x2, x3, x4, x5, x6] (.inr x :: st) M) : AW G cc own 7 fr lo rt Φ pc [some (.inr x), x1, x2, x3, x4, x5, x6] st M := a_ald (i := 0) (Or.inl ⟨0, rfl, hd, hp⟩) rfl kk
theorem a_al_0_9 {x1 x2 x3 x4 x5 x6 x7 x8 : Option OV} {x : Obj} (hd : decode cc pc = .ok (.aload_n 0, 1)) (hp : pc + 1 = pc') (kk : AW G cc own 9 fr lo rt Φ pc' [some (.inr x), x1, x2, x3, x4, x5, x6, x7, x8] (.inr x :: st) M) : AW G cc own 9 fr lo rt Φ pc [some (.inr x), x1, x2, x3, x4, x5, x6, x7, x8] st M := a_ald (i := 0) (Or.inl ⟨0, rfl, hd, hp⟩) rfl kk
theorem a_al_0_11 {x1 x2 x3 x4 x5 x6 x7 x8 x9 x10 : Option OV} {x : Obj} (hd : decode cc pc = .ok (.aload_n 0, 1)) (hp : pc + 1 = pc') (kk : AW G cc own 11 fr lo rt Φ pc' [some (.inr x), x1, x2, x3, x4, x5, x6, x7, x8, x9, x10] (.inr x :: st) M) : AW G cc own 11 fr lo rt Φ pc [some (.inr x), x1, x2, x3, x4, x5, x6, x7, x8, x9, x10] st M := a_ald (i := 0) (Or.inl ⟨0, rfl, hd, hp⟩) rfl kk
theorem a_al_1_2 {x0 : Option OV} {x : Obj} (hd : decode cc pc = .ok (.aload_n 1, 1)) (hp : pc + 1 = pc') (kk : AW G cc own 2 fr lo rt Φ pc' [x0, some (.inr x)] (.inr x :: st) M) : AW G cc own 2 fr lo rt Φ pc [x0, some (.inr x)] st M := a_ald (i := 1) (Or.inl ⟨1, rfl, hd, hp⟩) rfl kk
theorem a_al_1_3 {x0 x2 : Option OV} {x : Obj} (hd : decode cc pc = .ok (.aload_n 1, 1)) (hp : pc + 1 = pc') (kk : AW G cc own 3 fr lo rt Φ pc' [x0, some (.inr x), x2] (.inr x :: st) M) : AW G cc own 3 fr lo rt Φ pc [x0, some (.inr x), x2] st M := a_ald (i := 1) (Or.inl ⟨1, rfl, hd, hp⟩) rfl kk
theorem a_al_1_4 {x0 x2 x3 : Option OV} {x : Obj} (hd : decode cc pc = .ok (.aload_n 1, 1)) (hp : pc + 1 = pc') (kk : AW G cc own 4 fr lo rt Φ pc' [x0, some (.inr x), x2, x3] (.inr x :: st) M) : AW G cc own 4 fr lo rt Φ pc [x0, some (.inr x), x2, x3] st M := a_ald (i := 1) (Or.inl ⟨1, rfl, hd, hp⟩) rfl kk
theorem a_al_2_3 {x0 x1 : Option OV} {x : Obj} (hd : decode cc pc = .ok (.aload_n 2, 1)) (hp : pc + 1 = pc') (kk : AW G cc own 3 fr lo rt Φ pc' [x0, x1, some (.inr x)] (.inr x :: st) M) : AW G cc own 3 fr lo rt Φ pc [x0, x1, some (.inr x)] st M := a_ald (i := 2) (Or.inl ⟨2, rfl, hd, hp⟩) rfl kk
theorem a_al_2_4 {x0 x1 x3 : Option OV} {x : Obj} (hd : decode cc pc = .ok (.aload_n 2, 1)) (hp : pc + 1 = pc') (kk : AW G cc own 4 fr lo rt Φ pc' [x0, x1, some (.inr x), x3] (.inr x :: st) M) : AW G cc own 4 fr lo rt Φ pc [x0, x1, some (.inr x), x3] st M := a_ald (i := 2) (Or.inl ⟨2, rfl, hd, hp⟩) rfl kk
theorem a_al_2_5 {x0 x1 x3 x4 : Option OV} {x : Obj} (hd : decode cc pc = .ok (.aload_n 2, 1)) (hp : pc + 1 = pc') (kk : AW G cc own 5 fr lo rt Φ pc' [x0, x1, some (.inr x), x3, x4] (.inr x :: st) M) : AW G cc own 5 fr lo rt Φ pc [x0, x1, some (.inr x), x3, x4] st M := a_ald (i := 2) (Or.inl ⟨2, rfl, hd, hp⟩) rfl kk
theorem a_al_2_6 {x0 x1 x3 x4 x5 : Option OV} {x : Obj} (hd : decode cc pc = .ok (.aload_n 2, 1)) (hp : pc + 1 = pc') (kk : AW G cc own 6 fr lo rt Φ pc' [x0, x1, some (.inr x), x3, x4, x5] (.inr x :: st) M) : AW G cc own 6 fr lo rt Φ pc [x0, x1, some (.inr x), x3, x4, x5] st M := a_ald (i := 2) (Or.inl ⟨2, rfl, hd, hp⟩) rfl kk
theorem a_al_3_4 {x0 x1 x2 : Option OV} {x : Obj} (hd : decode cc pc = .ok (.aload_n 3, 1)) (hp : pc + 1 = pc') (kk : AW G cc own 4 fr lo rt Φ pc' [x0, x1, x2, some (.inr x)] (.inr x :: st) M) : AW G cc own 4 fr lo rt Φ pc [x0, x1, x2, some (.inr x)] st M := a_ald (i := 3) (Or.inl ⟨3, rfl, hd, hp⟩) rfl kk
theorem a_al_3_5 {x0 x1 x2 x4 : Option OV} {x : Obj} (hd : decode cc pc = .ok (.aload_n 3, 1)) (hp : pc + 1 = pc') (kk : AW G cc own 5 fr lo rt Φ pc' [x0, x1, x2, some (.inr x), x4] (.inr x :: st) M) : AW G cc own 5 fr lo rt Φ pc [x0, x1, x2, some (.inr x), x4] st M := a_ald (i := 3) (Or.inl ⟨3, rfl, hd, hp⟩) rfl kk
theorem a_al_4_5 {x0 x1 x2 x3 : Option OV} {x : Obj} (hd : decode cc pc = .ok (.aload 4, 2)) (hp : pc + 2 = pc') (kk : AW G cc own 5 fr lo rt Φ pc' [x0, x1, x2, x3, some (.inr x)] (.inr x :: st) M) : AW G cc own 5 fr lo rt Φ pc [x0, x1, x2, x3, some (.inr x)] st M := a_ald (i := 4) (Or.inr ⟨hd, hp⟩) rfl kk
theorem a_al_5_6 {x0 x1 x2 x3 x4 : Option OV} {x : Obj} (hd : decode cc pc = .ok (.aload 5, 2)) (hp : pc + 2 = pc') (kk : AW G cc own 6 fr lo rt Φ pc' [x0, x1, x2, x3, x4, some (.inr x)] (.inr x :: st) M) : AW G cc own 6 fr lo rt Φ pc [x0, x1, x2, x3, x4, some (.inr x)] st M := a_ald (i := 5) (Or.inr ⟨hd, hp⟩) rfl kk
theorem a_al_5_7 {x0 x1 x2 x3 x4 x6 : Option OV} {x : Obj} (hd : decode cc pc = .ok (.aload 5, 2)) (hp : pc + 2 = pc') (kk : AW G cc own 7 fr lo rt Φ pc' [x0, x1, x2, x3, x4, some (.inr x), x6] (.inr x :: st) M) : AW G cc own 7 fr lo rt Φ pc [x0, x1, x2, x3, x4, some (.inr x), x6] st M := a_ald (i := 5) (Or.inr ⟨hd, hp⟩) rfl kk
theorem a_al_7_11 {x0 x1 x2 x3 x4 x5 x6 x8 x9 x10 : Option OV} {x : Obj} (hd : decode cc pc = .ok (.aload 7, 2)) (hp : pc + 2 = pc') (kk : AW G cc own 11 fr lo rt Φ pc' [x0, x1, x2, x3, x4, x5, x6, some (.inr x), x8, x9, x10] (.inr x :: st) M) : AW G cc own 11 fr lo rt Φ pc [x0, x1, x2, x3, x4, x5, x6, some (.inr x), x8, x9, x10] st M := a_ald (i := 7) (Or.inr ⟨hd, hp⟩) rfl kk
theorem a_as_1_4 {x0 x2 x3 : Option OV} {y : Option OV} {x : Obj} (hd : decode cc pc = .ok (.astore_n 1, 1)) (hp : pc + 1 = pc') (kk : AW G cc own 4 fr lo rt Φ pc' [x0, some (.inr x), x2, x3] st M) : AW G cc own 4 fr lo rt Φ pc [x0, y, x2, x3] (.inr x :: st) M := a_ast (i := 1) (by decide) (Or.inl ⟨1, rfl, hd, hp⟩) kk
theorem a_as_2_3 {x0 x1 : Option OV} {y : Option OV} {x : Obj} (hd : decode cc pc = .ok (.astore_n 2, 1)) (hp : pc + 1 = pc') (kk : AW G cc own 3 fr lo rt Φ pc' [x0, x1, some (.inr x)] st M) : AW G cc own 3 fr lo rt Φ pc [x0, x1, y] (.inr x :: st) M := a_ast (i := 2) (by decide) (Or.inl ⟨2, rfl, hd, hp⟩) kk
theorem a_as_2_4 {x0 x1 x3 : Option OV} {y : Option OV} {x : Obj} (hd : decode cc pc = .ok (.astore_n 2, 1)) (hp : pc + 1 = pc') (kk : AW G cc own 4 fr lo rt Φ pc' [x0, x1, some (.inr x), x3] st M) : AW G cc own 4 fr lo rt Φ pc [x0, x1, y, x3] (.inr x :: st) M := a_ast (i := 2) (by decide) (Or.inl ⟨2, rfl, hd, hp⟩) kk
theorem a_as_2_5 {x0 x1 x3 x4 : Option OV} {y : Option OV} {x : Obj} (hd : decode cc pc = .ok (.astore_n 2, 1)) (hp : pc + 1 = pc') (kk : AW G cc own 5 fr lo rt Φ pc' [x0, x1, some (.inr x), x3, x4] st M) : AW G cc own 5 fr lo rt Φ pc [x0, x1, y, x3, x4] (.inr x :: st) M := a_ast (i := 2) (by decide) (Or.inl ⟨2, rfl, hd, hp⟩) kk
theorem a_as_3_4 {x0 x1 x2 : Option OV} {y : Option OV} {x : Obj} (hd : decode cc pc = .ok (.astore_n 3, 1)) (hp : pc + 1 = pc') (kk : AW G cc own 4 fr lo rt Φ pc' [x0, x1, x2, some (.inr x)] st M) : AW G cc own 4 fr lo rt Φ pc [x0, x1, x2, y] (.inr x :: st) M := a_ast (i := 3) (by decide) (Or.inl ⟨3, rfl, hd, hp⟩) kk
theorem a_as_3_5 {x0 x1 x2 x4 : Option OV} {y : Option OV} {x : Obj} (hd : decode cc pc = .ok (.astore_n 3, 1)) (hp : pc + 1 = pc') (kk : AW G cc own 5 fr lo rt Φ pc' [x0, x1, x2, some (.inr x), x4] st M) : AW G cc own 5 fr lo rt Φ pc [x0, x1, x2, y, x4] (.inr x :: st) M := a_ast (i := 3) (by decide) (Or.inl ⟨3, rfl, hd, hp⟩) kk
theorem a_as_4_5 {x0 x1 x2 x3 : Option OV} {y : Option OV} {x : Obj} (hd : decode cc pc = .ok (.astore 4, 2)) (hp : pc + 2 = pc') (kk : AW G cc own 5 fr lo rt Φ pc' [x0, x1, x2, x3, some (.inr x)] st M) : AW G cc own 5 fr lo rt Φ pc [x0, x1, x2, x3, y] (.inr x :: st) M := a_ast (i := 4) (by decide) (Or.inr ⟨hd, hp⟩) kk
theorem a_as_5_6 {x0 x1 x2 x3 x4 : Option OV} {y : Option OV} {x : Obj} (hd : decode cc pc = .ok (.astore 5, 2)) (hp : pc + 2 = pc') (kk : AW G cc own 6 fr lo rt Φ pc' [x0, x1, x2, x3, x4, some (.inr x)] st M) : AW G cc own 6 fr lo rt Φ pc [x0, x1, x2, x3, x4, y] (.inr x :: st) M := a_ast (i := 5) (by decide) (Or.inr ⟨hd, hp⟩) kk
theorem a_as_5_7 {x0 x1 x2 x3 x4 x6 : Option OV} {y : Option OV} {x : Obj} (hd : decode cc pc = .ok (.astore 5, 2)) (hp : pc + 2 = pc') (kk : AW G cc own 7 fr lo rt Φ pc' [x0, x1, x2, x3, x4, some (.inr x), x6] st M) : AW G cc own 7 fr lo rt Φ pc [x0, x1, x2, x3, x4, y, x6] (.inr x :: st) M := a_ast (i := 5) (by decide) (Or.inr ⟨hd, hp⟩) kk
theorem a_as_7_11 {x0 x1 x2 x3 x4 x5 x6 x8 x9 x10 : Option OV} {y : Option OV} {x : Obj} (hd : decode cc pc = .ok (.astore 7, 2)) (hp : pc + 2 = pc') (kk : AW G cc own 11 fr lo rt Φ pc' [x0, x1, x2, x3, x4, x5, x6, some (.inr x), x8, x9, x10] st M) : AW G cc own 11 fr lo rt Φ pc [x0, x1, x2, x3, x4, x5, x6, y, x8, x9, x10] (.inr x :: st) M := a_ast (i := 7) (by decide) (Or.inr ⟨hd, hp⟩) kk
theorem a_in_1_2 {x0 : Option OV} {x c9 : Int32} {n9 : Int} (hd : decode cc pc = .ok (.iinc 1 n9, 3)) (hv : Int32.ofInt n9 = c9) (hp : pc + 3 = pc') (kk : AW G cc own 2 fr lo rt Φ pc' [x0, some (.inl (x + c9))] st M) : AW G cc own 2 fr lo rt Φ pc [x0, some (.inl x)] st M := a_inc (i := 1) (by decide) hd rfl (by rw [hv]) hp kk
theorem a_in_1_3 {x0 x2 : Option OV} {x c9 : Int32} {n9 : Int} (hd : decode cc pc = .ok (.iinc 1 n9, 3)) (hv : Int32.ofInt n9 = c9) (hp : pc + 3 = pc') (kk : AW G cc own 3 fr lo rt Φ pc' [x0, some (.inl (x + c9)), x2] st M) : AW G cc own 3 fr lo rt Φ pc [x0, some (.inl x), x2] st M := a_inc (i := 1) (by decide) hd rfl (by rw [hv]) hp kk
theorem a_in_1_4 {x0 x2 x3 : Option OV} {x c9 : Int32} {n9 : Int} (hd : decode cc pc = .ok (.iinc 1 n9, 3)) (hv : Int32.ofInt n9 = c9) (hp : pc + 3 = pc') (kk : AW G cc own 4 fr lo rt Φ pc' [x0, some (.inl (x + c9)), x2, x3] st M) : AW G cc own 4 fr lo rt Φ pc [x0, some (.inl x), x2, x3] st M := a_inc (i := 1) (by decide) hd rfl (by rw [hv]) hp kk
theorem a_in_1_5 {x0 x2 x3 x4 : Option OV} {x c9 : Int32} {n9 : Int} (hd : decode cc pc = .ok (.iinc 1 n9, 3)) (hv : Int32.ofInt n9 = c9) (hp : pc + 3 = pc') (kk : AW G cc own 5 fr lo rt Φ pc' [x0, some (.inl (x + c9)), x2, x3, x4] st M) : AW G cc own 5 fr lo rt Φ pc [x0, some (.inl x), x2, x3, x4] st M := a_inc (i := 1) (by decide) hd rfl (by rw [hv]) hp kk
theorem a_in_2_3 {x0 x1 : Option OV} {x c9 : Int32} {n9 : Int} (hd : decode cc pc = .ok (.iinc 2 n9, 3)) (hv : Int32.ofInt n9 = c9) (hp : pc + 3 = pc') (kk : AW G cc own 3 fr lo rt Φ pc' [x0, x1, some (.inl (x + c9))] st M) : AW G cc own 3 fr lo rt Φ pc [x0, x1, some (.inl x)] st M := a_inc (i := 2) (by decide) hd rfl (by rw [hv]) hp kk
theorem a_in_2_4 {x0 x1 x3 : Option OV} {x c9 : Int32} {n9 : Int} (hd : decode cc pc = .ok (.iinc 2 n9, 3)) (hv : Int32.ofInt n9 = c9) (hp : pc + 3 = pc') (kk : AW G cc own 4 fr lo rt Φ pc' [x0, x1, some (.inl (x + c9)), x3] st M) : AW G cc own 4 fr lo rt Φ pc [x0, x1, some (.inl x), x3] st M := a_inc (i := 2) (by decide) hd rfl (by rw [hv]) hp kk
theorem a_in_2_5 {x0 x1 x3 x4 : Option OV} {x c9 : Int32} {n9 : Int} (hd : decode cc pc = .ok (.iinc 2 n9, 3)) (hv : Int32.ofInt n9 = c9) (hp : pc + 3 = pc') (kk : AW G cc own 5 fr lo rt Φ pc' [x0, x1, some (.inl (x + c9)), x3, x4] st M) : AW G cc own 5 fr lo rt Φ pc [x0, x1, some (.inl x), x3, x4] st M := a_inc (i := 2) (by decide) hd rfl (by rw [hv]) hp kk
theorem a_in_2_7 {x0 x1 x3 x4 x5 x6 : Option OV} {x c9 : Int32} {n9 : Int} (hd : decode cc pc = .ok (.iinc 2 n9, 3)) (hv : Int32.ofInt n9 = c9) (hp : pc + 3 = pc') (kk : AW G cc own 7 fr lo rt Φ pc' [x0, x1, some (.inl (x + c9)), x3, x4, x5, x6] st M) : AW G cc own 7 fr lo rt Φ pc [x0, x1, some (.inl x), x3, x4, x5, x6] st M := a_inc (i := 2) (by decide) hd rfl (by rw [hv]) hp kk
theorem a_in_3_4 {x0 x1 x2 : Option OV} {x c9 : Int32} {n9 : Int} (hd : decode cc pc = .ok (.iinc 3 n9, 3)) (hv : Int32.ofInt n9 = c9) (hp : pc + 3 = pc') (kk : AW G cc own 4 fr lo rt Φ pc' [x0, x1, x2, some (.inl (x + c9))] st M) : AW G cc own 4 fr lo rt Φ pc [x0, x1, x2, some (.inl x)] st M := a_inc (i := 3) (by decide) hd rfl (by rw [hv]) hp kk
theorem a_in_3_5 {x0 x1 x2 x4 : Option OV} {x c9 : Int32} {n9 : Int} (hd : decode cc pc = .ok (.iinc 3 n9, 3)) (hv : Int32.ofInt n9 = c9) (hp : pc + 3 = pc') (kk : AW G cc own 5 fr lo rt Φ pc' [x0, x1, x2, some (.inl (x + c9)), x4] st M) : AW G cc own 5 fr lo rt Φ pc [x0, x1, x2, some (.inl x), x4] st M := a_inc (i := 3) (by decide) hd rfl (by rw [hv]) hp kk
theorem a_in_3_6 {x0 x1 x2 x4 x5 : Option OV} {x c9 : Int32} {n9 : Int} (hd : decode cc pc = .ok (.iinc 3 n9, 3)) (hv : Int32.ofInt n9 = c9) (hp : pc + 3 = pc') (kk : AW G cc own 6 fr lo rt Φ pc' [x0, x1, x2, some (.inl (x + c9)), x4, x5] st M) : AW G cc own 6 fr lo rt Φ pc [x0, x1, x2, some (.inl x), x4, x5] st M := a_inc (i := 3) (by decide) hd rfl (by rw [hv]) hp kk
theorem a_in_4_5 {x0 x1 x2 x3 : Option OV} {x c9 : Int32} {n9 : Int} (hd : decode cc pc = .ok (.iinc 4 n9, 3)) (hv : Int32.ofInt n9 = c9) (hp : pc + 3 = pc') (kk : AW G cc own 5 fr lo rt Φ pc' [x0, x1, x2, x3, some (.inl (x + c9))] st M) : AW G cc own 5 fr lo rt Φ pc [x0, x1, x2, x3, some (.inl x)] st M := a_inc (i := 4) (by decide) hd rfl (by rw [hv]) hp kk
theorem a_in_4_6 {x0 x1 x2 x3 x5 : Option OV} {x c9 : Int32} {n9 : Int} (hd : decode cc pc = .ok (.iinc 4 n9, 3)) (hv : Int32.ofInt n9 = c9) (hp : pc + 3 = pc') (kk : AW G cc own 6 fr lo rt Φ pc' [x0, x1, x2, x3, some (.inl (x + c9)), x5] st M) : AW G cc own 6 fr lo rt Φ pc [x0, x1, x2, x3, some (.inl x), x5] st M := a_inc (i := 4) (by decide) hd rfl (by rw [hv]) hp kk
theorem a_in_4_7 {x0 x1 x2 x3 x5 x6 : Option OV} {x c9 : Int32} {n9 : Int} (hd : decode cc pc = .ok (.iinc 4 n9, 3)) (hv : Int32.ofInt n9 = c9) (hp : pc + 3 = pc') (kk : AW G cc own 7 fr lo rt Φ pc' [x0, x1, x2, x3, some (.inl (x + c9)), x5, x6] st M) : AW G cc own 7 fr lo rt Φ pc [x0, x1, x2, x3, some (.inl x), x5, x6] st M := a_inc (i := 4) (by decide) hd rfl (by rw [hv]) hp kk
theorem a_in_5_6 {x0 x1 x2 x3 x4 : Option OV} {x c9 : Int32} {n9 : Int} (hd : decode cc pc = .ok (.iinc 5 n9, 3)) (hv : Int32.ofInt n9 = c9) (hp : pc + 3 = pc') (kk : AW G cc own 6 fr lo rt Φ pc' [x0, x1, x2, x3, x4, some (.inl (x + c9))] st M) : AW G cc own 6 fr lo rt Φ pc [x0, x1, x2, x3, x4, some (.inl x)] st M := a_inc (i := 5) (by decide) hd rfl (by rw [hv]) hp kk
theorem a_in_5_9 {x0 x1 x2 x3 x4 x6 x7 x8 : Option OV} {x c9 : Int32} {n9 : Int} (hd : decode cc pc = .ok (.iinc 5 n9, 3)) (hv : Int32.ofInt n9 = c9) (hp : pc + 3 = pc') (kk : AW G cc own 9 fr lo rt Φ pc' [x0, x1, x2, x3, x4, some (.inl (x + c9)), x6, x7, x8] st M) : AW G cc own 9 fr lo rt Φ pc [x0, x1, x2, x3, x4, some (.inl x), x6, x7, x8] st M := a_inc (i := 5) (by decide) hd rfl (by rw [hv]) hp kk
theorem a_in_6_9 {x0 x1 x2 x3 x4 x5 x7 x8 : Option OV} {x c9 : Int32} {n9 : Int} (hd : decode cc pc = .ok (.iinc 6 n9, 3)) (hv : Int32.ofInt n9 = c9) (hp : pc + 3 = pc') (kk : AW G cc own 9 fr lo rt Φ pc' [x0, x1, x2, x3, x4, x5, some (.inl (x + c9)), x7, x8] st M) : AW G cc own 9 fr lo rt Φ pc [x0, x1, x2, x3, x4, x5, some (.inl x), x7, x8] st M := a_inc (i := 6) (by decide) hd rfl (by rw [hv]) hp kk
theorem a_in_7_9 {x0 x1 x2 x3 x4 x5 x6 x8 : Option OV} {x c9 : Int32} {n9 : Int} (hd : decode cc pc = .ok (.iinc 7 n9, 3)) (hv : Int32.ofInt n9 = c9) (hp : pc + 3 = pc') (kk : AW G cc own 9 fr lo rt Φ pc' [x0, x1, x2, x3, x4, x5, x6, some (.inl (x + c9)), x8] st M) : AW G cc own 9 fr lo rt Φ pc [x0, x1, x2, x3, x4, x5, x6, some (.inl x), x8] st M := a_inc (i := 7) (by decide) hd rfl (by rw [hv]) hp kk
theorem a_in_8_9 {x0 x1 x2 x3 x4 x5 x6 x7 : Option OV} {x c9 : Int32} {n9 : Int} (hd : decode cc pc = .ok (.iinc 8 n9, 3)) (hv : Int32.ofInt n9 = c9) (hp : pc + 3 = pc') (kk : AW G cc own 9 fr lo rt Φ pc' [x0, x1, x2, x3, x4, x5, x6, x7, some (.inl (x + c9))] st M) : AW G cc own 9 fr lo rt Φ pc [x0, x1, x2, x3, x4, x5, x6, x7, some (.inl x)] st M := a_inc (i := 8) (by decide) hd rfl (by rw [hv]) hp kk
theorem a_in_8_11 {x0 x1 x2 x3 x4 x5 x6 x7 x9 x10 : Option OV} {x c9 : Int32} {n9 : Int} (hd : decode cc pc = .ok (.iinc 8 n9, 3)) (hv : Int32.ofInt n9 = c9) (hp : pc + 3 = pc') (kk : AW G cc own 11 fr lo rt Φ pc' [x0, x1, x2, x3, x4, x5, x6, x7, some (.inl (x + c9)), x9, x10] st M) : AW G cc own 11 fr lo rt Φ pc [x0, x1, x2, x3, x4, x5, x6, x7, some (.inl x), x9, x10] st M := a_inc (i := 8) (by decide) hd rfl (by rw [hv]) hp kk
theorem a_in_9_11 {x0 x1 x2 x3 x4 x5 x6 x7 x8 x10 : Option OV} {x c9 : Int32} {n9 : Int} (hd : decode cc pc = .ok (.iinc 9 n9, 3)) (hv : Int32.ofInt n9 = c9) (hp : pc + 3 = pc') (kk : AW G cc own 11 fr lo rt Φ pc' [x0, x1, x2, x3, x4, x5, x6, x7, x8, some (.inl (x + c9)), x10] st M) : AW G cc own 11 fr lo rt Φ pc [x0, x1, x2, x3, x4, x5, x6, x7, x8, some (.inl x), x10] st M := a_inc (i := 9) (by decide) hd rfl (by rw [hv]) hp kk
theorem a_in_10_11 {x0 x1 x2 x3 x4 x5 x6 x7 x8 x9 : Option OV} {x c9 : Int32} {n9 : Int} (hd : decode cc pc = .ok (.iinc 10 n9, 3)) (hv : Int32.ofInt n9 = c9) (hp : pc + 3 = pc') (kk : AW G cc own 11 fr lo rt Φ pc' [x0, x1, x2, x3, x4, x5, x6, x7, x8, x9, some (.inl (x + c9))] st M) : AW G cc own 11 fr lo rt Φ pc [x0, x1, x2, x3, x4, x5, x6, x7, x8, x9, some (.inl x)] st M := a_inc (i := 10) (by decide) hd rfl (by rw [hv]) hp kk
theorem a_il_0_1 {x : Int32} (hd : decode cc pc = .ok (.iload_n 0, 1)) (hp : pc + 1 = pc') (kk : AW G cc own 1 fr lo rt Φ pc' [some (.inl x)] (.inl x :: st) M) : AW G cc own 1 fr lo rt Φ pc [some (.inl x)] st M := a_ild (i := 0) (Or.inl ⟨0, rfl, hd, hp⟩) rfl kk
theorem a_il_0_2 {x1 : Option OV} {x : Int32} (hd : decode cc pc = .ok (.iload_n 0, 1)) (hp : pc + 1 = pc') (kk : AW G cc own 2 fr lo rt Φ pc' [some (.inl x), x1] (.inl x :: st) M) : AW G cc own 2 fr lo rt Φ pc [some (.inl x), x1] st M := a_ild (i := 0) (Or.inl ⟨0, rfl, hd, hp⟩) rfl kk
theorem a_il_0_3 {x1 x2 : Option OV} {x : Int32} (hd : decode cc pc = .ok (.iload_n 0, 1)) (hp : pc + 1 = pc') (kk : AW G cc own 3 fr lo rt Φ pc' [some (.inl x), x1, x2] (.inl x :: st) M) : AW G cc own 3 fr lo rt Φ pc [some (.inl x), x1, x2] st M := a_ild (i := 0) (Or.inl ⟨0, rfl, hd, hp⟩) rfl kk
theorem a_il_1_2 {x0 : Option OV} {x : Int32} (hd : decode cc pc = .ok (.iload_n 1, 1)) (hp : pc + 1 = pc') (kk : AW G cc own 2 fr lo rt Φ pc' [x0, some (.inl x)] (.inl x :: st) M) : AW G cc own 2 fr lo rt Φ pc [x0, some (.inl x)] st M := a_ild (i := 1) (Or.inl ⟨1, rfl, hd, hp⟩) rfl kk
theorem a_il_1_3 {x0 x2 : Option OV} {x : Int32} (hd : decode cc pc = .ok (.iload_n 1, 1)) (hp : pc + 1 = pc') (kk : AW G cc own 3 fr lo rt Φ pc' [x0, some (.inl x), x2] (.inl x :: st) M) : AW G cc own 3 fr lo rt Φ pc [x0, some (.inl x), x2] st M := a_ild (i := 1) (Or.inl ⟨1, rfl, hd, hp⟩) rfl kk
theorem a_il_1_4 {x0 x2 x3 : Option OV} {x : Int32} (hd : decode cc pc = .ok (.iload_n 1, 1)) (hp : pc + 1 = pc') (kk : AW G cc own 4 fr lo rt Φ pc' [x0, some (.inl x), x2, x3] (.inl x :: st) M) : AW G cc own 4 fr lo rt Φ pc [x0, some (.inl x), x2, x3] st M := a_ild (i := 1) (Or.inl ⟨1, rfl, hd, hp⟩) rfl kk
theorem a_il_1_5 {x0 x2 x3 x4 : Option OV} {x : Int32} (hd : decode cc pc = .ok (.iload_n 1, 1)) (hp : pc + 1 = pc') (kk : AW G cc own 5 fr lo rt Φ pc' [x0, some (.inl x), x2, x3, x4] (.inl x :: st) M) : AW G cc own 5 fr lo rt Φ pc [x0, some (.inl x), x2, x3, x4] st M := a_ild (i := 1) (Or.inl ⟨1, rfl, hd, hp⟩) rfl kk
theorem a_il_1_6 {x0 x2 x3 x4 x5 : Option OV} {x : Int32} (hd : decode cc pc = .ok (.iload_n 1, 1)) (hp : pc + 1 = pc') (kk : AW G cc own 6 fr lo rt Φ pc' [x0, some (.inl x), x2, x3, x4, x5] (.inl x :: st) M) : AW G cc own 6 fr lo rt Φ pc [x0, some (.inl x), x2, x3, x4, x5] st M := a_ild (i := 1) (Or.inl ⟨1, rfl, hd, hp⟩) rfl kk
theorem a_il_1_7 {x0 x2 x3 x4 x5 x6 : Option OV} {x : Int32} (hd : decode cc pc = .ok (.iload_n 1, 1)) (hp : pc + 1 = pc') (kk : AW G cc own 7 fr lo rt Φ pc' [x0, some (.inl x), x2, x3, x4, x5, x6] (.inl x :: st) M) : AW G cc own 7 fr lo rt Φ pc [x0, some (.inl x), x2, x3, x4, x5, x6] st M := a_ild (i := 1) (Or.inl ⟨1, rfl, hd, hp⟩) rfl kk
theorem a_il_1_9 {x0 x2 x3 x4 x5 x6 x7 x8 : Option OV} {x : Int32} (hd : decode cc pc = .ok (.iload_n 1, 1)) (hp : pc + 1 = pc') (kk : AW G cc own 9 fr lo rt Φ pc' [x0, some (.inl x), x2, x3, x4, x5, x6, x7, x8] (.inl x :: st) M) : AW G cc own 9 fr lo rt Φ pc [x0, some (.inl x), x2, x3, x4, x5, x6, x7, x8] st M := a_ild (i := 1) (Or.inl ⟨1, rfl, hd, hp⟩) rfl kk
theorem a_il_1_11 {x0 x2 x3 x4 x5 x6 x7 x8 x9 x10 : Option OV} {x : Int32} (hd : decode cc pc = .ok (.iload_n 1, 1)) (hp : pc + 1 = pc') (kk : AW G cc own 11 fr lo rt Φ pc' [x0, some (.inl x), x2, x3, x4, x5, x6, x7, x8, x9, x10] (.inl x :: st) M) : AW G cc own 11 fr lo rt Φ pc [x0, some (.inl x), x2, x3, x4, x5, x6, x7, x8, x9, x10] st M := a_ild (i := 1) (Or.inl ⟨1, rfl, hd, hp⟩) rfl kk
theorem a_il_2_3 {x0 x1 : Option OV} {x : Int32} (hd : decode cc pc = .ok (.iload_n 2, 1)) (hp : pc + 1 = pc') (kk : AW G cc own 3 fr lo rt Φ pc' [x0, x1, some (.inl x)] (.inl x :: st) M) : AW G cc own 3 fr lo rt Φ pc [x0, x1, some (.inl x)] st M := a_ild (i := 2) (Or.inl ⟨2, rfl, hd, hp⟩) rfl kk
theorem a_il_2_4 {x0 x1 x3 : Option OV} {x : Int32} (hd : decode cc pc = .ok (.iload_n 2, 1)) (hp : pc + 1 = pc') (kk : AW G cc own 4 fr lo rt Φ pc' [x0, x1, some (.inl x), x3] (.inl x :: st) M) : AW G cc own 4 fr lo rt Φ pc [x0, x1, some (.inl x), x3] st M := a_ild (i := 2) (Or.inl ⟨2, rfl, hd, hp⟩) rfl kk
theorem a_il_2_5 {x0 x1 x3 x4 : Option OV} {x : Int32} (hd : decode cc pc = .ok (.iload_n 2, 1)) (hp : pc + 1 = pc') (kk : AW G cc own 5 fr lo rt Φ pc' [x0, x1, some (.inl x), x3, x4] (.inl x :: st) M) : AW G cc own 5 fr lo rt Φ pc [x0, x1, some (.inl x), x3, x4] st M := a_ild (i := 2) (Or.inl ⟨2, rfl, hd, hp⟩) rfl kk
theorem a_il_2_6 {x0 x1 x3 x4 x5 : Option OV} {x : Int32} (hd : decode cc pc = .ok (.iload_n 2, 1)) (hp : pc + 1 = pc') (kk : AW G cc own 6 fr lo rt Φ pc' [x0, x1, some (.inl x), x3, x4, x5] (.inl x :: st) M) : AW G cc own 6 fr lo rt Φ pc [x0, x1, some (.inl x), x3, x4, x5] st M := a_ild (i := 2) (Or.inl ⟨2, rfl, hd, hp⟩) rfl kk
theorem a_il_2_7 {x0 x1 x3 x4 x5 x6 : Option OV} {x : Int32} (hd : decode cc pc = .ok (.iload_n 2, 1)) (hp : pc + 1 = pc') (kk : AW G cc own 7 fr lo rt Φ pc' [x0, x1, some (.inl x), x3, x4, x5, x6] (.inl x :: st) M) : AW G cc own 7 fr lo rt Φ pc [x0, x1, some (.inl x), x3, x4, x5, x6] st M := a_ild (i := 2) (Or.inl ⟨2, rfl, hd, hp⟩) rfl kk
theorem a_il_2_9 {x0 x1 x3 x4 x5 x6 x7 x8 : Option OV} {x : Int32} (hd : decode cc pc = .ok (.iload_n 2, 1)) (hp : pc + 1 = pc') (kk : AW G cc own 9 fr lo rt Φ pc' [x0, x1, some (.inl x), x3, x4, x5, x6, x7, x8] (.inl x :: st) M) : AW G cc own 9 fr lo rt Φ pc [x0, x1, some (.inl x), x3, x4, x5, x6, x7, x8] st M := a_ild (i := 2) (Or.inl ⟨2, rfl, hd, hp⟩) rfl kk
theorem a_il_2_11 {x0 x1 x3 x4 x5 x6 x7 x8 x9 x10 : Option OV} {x : Int32} (hd : decode cc pc = .ok (.iload_n 2, 1)) (hp : pc + 1 = pc') (kk : AW G cc own 11 fr lo rt Φ pc' [x0, x1, some (.inl x), x3, x4, x5, x6, x7, x8, x9, x10] (.inl x :: st) M) : AW G cc own 11 fr lo rt Φ pc [x0, x1, some (.inl x), x3, x4, x5, x6, x7, x8, x9, x10] st M := a_ild (i := 2) (Or.inl ⟨2, rfl, hd, hp⟩) rfl kk
theorem a_il_3_4 {x0 x1 x2 : Option OV} {x : Int32} (hd : decode cc pc = .ok (.iload_n 3, 1)) (hp : pc + 1 = pc') (kk : AW G cc own 4 fr lo rt Φ pc' [x0, x1, x2, some (.inl x)] (.inl x :: st) M) : AW G cc own 4 fr lo rt Φ pc [x0, x1, x2, some (.inl x)] st M := a_ild (i := 3) (Or.inl ⟨3, rfl, hd, hp⟩) rfl kk
theorem a_il_3_5 {x0 x1 x2 x4 : Option OV} {x : Int32} (hd : decode cc pc = .ok (.iload_n 3, 1)) (hp : pc + 1 = pc') (kk : AW G cc own 5 fr lo rt Φ pc' [x0, x1, x2, some (.inl x), x4] (.inl x :: st) M) : AW G cc own 5 fr lo rt Φ pc [x0, x1, x2, some (.inl x), x4] st M := a_ild (i := 3) (Or.inl ⟨3, rfl, hd, hp⟩) rfl kk
theorem a_il_3_6 {x0 x1 x2 x4 x5 : Option OV} {x : Int32} (hd : decode cc pc = .ok (.iload_n 3, 1)) (hp : pc + 1 = pc') (kk : AW G cc own 6 fr lo rt Φ pc' [x0, x1, x2, some (.inl x), x4, x5] (.inl x :: st) M) : AW G cc own 6 fr lo rt Φ pc [x0, x1, x2, some (.inl x), x4, x5] st M := a_ild (i := 3) (Or.inl ⟨3, rfl, hd, hp⟩) rfl kk
theorem a_il_3_7 {x0 x1 x2 x4 x5 x6 : Option OV} {x : Int32} (hd : decode cc pc = .ok (.iload_n 3, 1)) (hp : pc + 1 = pc') (kk : AW G cc own 7 fr lo rt Φ pc' [x0, x1, x2, some (.inl x), x4, x5, x6] (.inl x :: st) M) : AW G cc own 7 fr lo rt Φ pc [x0, x1, x2, some (.inl x), x4, x5, x6] st M := a_ild (i := 3) (Or.inl ⟨3, rfl, hd, hp⟩) rfl kk
theorem a_il_3_9 {x0 x1 x2 x4 x5 x6 x7 x8 : Option OV} {x : Int32} (hd : decode cc pc = .ok (.iload_n 3, 1)) (hp : pc + 1 = pc') (kk : AW G cc own 9 fr lo rt Φ pc' [x0, x1, x2, some (.inl x), x4, x5, x6, x7, x8] (.inl x :: st) M) : AW G cc own 9 fr lo rt Φ pc [x0, x1, x2, some (.inl x), x4, x5, x6, x7, x8] st M := a_ild (i := 3) (Or.inl ⟨3, rfl, hd, hp⟩) rfl kk
theorem a_il_3_11 {x0 x1 x2 x4 x5 x6 x7 x8 x9 x10 : Option OV} {x : Int32} (hd : decode cc pc = .ok (.iload_n 3, 1)) (hp : pc + 1 = pc') (kk : AW G cc own 11 fr lo rt Φ pc' [x0, x1, x2, some (.inl x), x4, x5, x6, x7, x8, x9, x10] (.inl x :: st) M) : AW G cc own 11 fr lo rt Φ pc [x0, x1, x2, some (.inl x), x4, x5, x6, x7, x8, x9, x10] st M := a_ild (i := 3) (Or.inl ⟨3, rfl, hd, hp⟩) rfl kk
theorem a_il_4_5 {x0 x1 x2 x3 : Option OV} {x : Int32} (hd : decode cc pc = .ok (.iload 4, 2)) (hp : pc + 2 = pc') (kk : AW G cc own 5 fr lo rt Φ pc' [x0, x1, x2, x3, some (.inl x)] (.inl x :: st) M) : AW G cc own 5 fr lo rt Φ pc [x0, x1, x2, x3, some (.inl x)] st M := a_ild (i := 4) (Or.inr ⟨hd, hp⟩) rfl kk
theorem a_il_4_6 {x0 x1 x2 x3 x5 : Option OV} {x : Int32} (hd : decode cc pc = .ok (.iload 4, 2)) (hp : pc + 2 = pc') (kk : AW G cc own 6 fr lo rt Φ pc' [x0, x1, x2, x3, some (.inl x), x5] (.inl x :: st) M) : AW G cc own 6 fr lo rt Φ pc [x0, x1, x2, x3, some (.inl x), x5] st M := a_ild (i := 4) (Or.inr ⟨hd, hp⟩) rfl kk
theorem a_il_4_7 {x0 x1 x2 x3 x5 x6 : Option OV} {x : Int32} (hd : decode cc pc = .ok (.iload 4, 2)) (hp : pc + 2 = pc') (kk : AW G cc own 7 fr lo rt Φ pc' [x0, x1, x2, x3, some (.inl x), x5, x6] (.inl x :: st) M) : AW G cc own 7 fr lo rt Φ pc [x0, x1, x2, x3, some (.inl x), x5, x6] st M := a_ild (i := 4) (Or.inr ⟨hd, hp⟩) rfl kk
theorem a_il_4_9 {x0 x1 x2 x3 x5 x6 x7 x8 : Option OV} {x : Int32} (hd : decode cc pc = .ok (.iload 4, 2)) (hp : pc + 2 = pc') (kk : AW G cc own 9 fr lo rt Φ pc' [x0, x1, x2, x3, some (.inl x), x5, x6, x7, x8] (.inl x :: st) M) : AW G cc own 9 fr lo rt Φ pc [x0, x1, x2, x3, some (.inl x), x5, x6, x7, x8] st M := a_ild (i := 4) (Or.inr ⟨hd, hp⟩) rfl kk
theorem a_il_4_11 {x0 x1 x2 x3 x5 x6 x7 x8 x9 x10 : Option OV} {x : Int32} (hd : decode cc pc = .ok (.iload 4, 2)) (hp : pc + 2 = pc') (kk : AW G cc own 11 fr lo rt Φ pc' [x0, x1, x2, x3, some (.inl x), x5, x6, x7, x8, x9, x10] (.inl x :: st) M) : AW G cc own 11 fr lo rt Φ pc [x0, x1, x2, x3, some (.inl x), x5, x6, x7, x8, x9, x10] st M := a_ild (i := 4) (Or.inr ⟨hd, hp⟩) rfl kk
theorem a_il_5_6 {x0 x1 x2 x3 x4 : Option OV} {x : Int32} (hd : decode cc pc = .ok (.iload 5, 2)) (hp : pc + 2 = pc') (kk : AW G cc own 6 fr lo rt Φ pc' [x0, x1, x2, x3, x4, some (.inl x)] (.inl x :: st) M) : AW G cc own 6 fr lo rt Φ pc [x0, x1, x2, x3, x4, some (.inl x)] st M := a_ild (i := 5) (Or.inr ⟨hd, hp⟩) rfl kk
theorem a_il_5_7 {x0 x1 x2 x3 x4 x6 : Option OV} {x : Int32} (hd : decode cc pc = .ok (.iload 5, 2)) (hp : pc + 2 = pc') (kk : AW G cc own 7 fr lo rt Φ pc' [x0, x1, x2, x3, x4, some (.inl x), x6] (.inl x :: st) M) : AW G cc own 7 fr lo rt Φ pc [x0, x1, x2, x3, x4, some (.inl x), x6] st M := a_ild (i := 5) (Or.inr ⟨hd, hp⟩) rfl kk
theorem a_il_5_9 {x0 x1 x2 x3 x4 x6 x7 x8 : Option OV} {x : Int32} (hd : decode cc pc = .ok (.iload 5, 2)) (hp : pc + 2 = pc') (kk : AW G cc own 9 fr lo rt Φ pc' [x0, x1, x2, x3, x4, some (.inl x), x6, x7, x8] (.inl x :: st) M) : AW G cc own 9 fr lo rt Φ pc [x0, x1, x2, x3, x4, some (.inl x), x6, x7, x8] st M := a_ild (i := 5) (Or.inr ⟨hd, hp⟩) rfl kk
theorem a_il_5_11 {x0 x1 x2 x3 x4 x6 x7 x8 x9 x10 : Option OV} {x : Int32} (hd : decode cc pc = .ok (.iload 5, 2)) (hp : pc + 2 = pc') (kk : AW G cc own 11 fr lo rt Φ pc' [x0, x1, x2, x3, x4, some (.inl x), x6, x7, x8, x9, x10] (.inl x :: st) M) : AW G cc own 11 fr lo rt Φ pc [x0, x1, x2, x3, x4, some (.inl x), x6, x7, x8, x9, x10] st M := a_ild (i := 5) (Or.inr ⟨hd, hp⟩) rfl kk
theorem a_il_6_7 {x0 x1 x2 x3 x4 x5 : Option OV} {x : Int32} (hd : decode cc pc = .ok (.iload 6, 2)) (hp : pc + 2 = pc') (kk : AW G cc own 7 fr lo rt Φ pc' [x0, x1, x2, x3, x4, x5, some (.inl x)] (.inl x :: st) M) : AW G cc own 7 fr lo rt Φ pc [x0, x1, x2, x3, x4, x5, some (.inl x)] st M := a_ild (i := 6) (Or.inr ⟨hd, hp⟩) rfl kk
theorem a_il_6_9 {x0 x1 x2 x3 x4 x5 x7 x8 : Option OV} {x : Int32} (hd : decode cc pc = .ok (.iload 6, 2)) (hp : pc + 2 = pc') (kk : AW G cc own 9 fr lo rt Φ pc' [x0, x1, x2, x3, x4, x5, some (.inl x), x7, x8] (.inl x :: st) M) : AW G cc own 9 fr lo rt Φ pc [x0, x1, x2, x3, x4, x5, some (.inl x), x7, x8] st M := a_ild (i := 6) (Or.inr ⟨hd, hp⟩) rfl kk
theorem a_il_6_11 {x0 x1 x2 x3 x4 x5 x7 x8 x9 x10 : Option OV} {x : Int32} (hd : decode cc pc = .ok (.iload 6, 2)) (hp : pc + 2 = pc') (kk : AW G cc own 11 fr lo rt Φ pc' [x0, x1, x2, x3, x4, x5, some (.inl x), x7, x8, x9, x10] (.inl x :: st) M) : AW G cc own 11 fr lo rt Φ pc [x0, x1, x2, x3, x4, x5, some (.inl x), x7, x8, x9, x10] st M := a_ild (i := 6) (Or.inr ⟨hd, hp⟩) rfl kk
theorem a_il_7_9 {x0 x1 x2 x3 x4 x5 x6 x8 : Option OV} {x : Int32} (hd : decode cc pc = .ok (.iload 7, 2)) (hp : pc + 2 = pc') (kk : AW G cc own 9 fr lo rt Φ pc' [x0, x1, x2, x3, x4, x5, x6, some (.inl x), x8] (.inl x :: st) M) : AW G cc own 9 fr lo rt Φ pc [x0, x1, x2, x3, x4, x5, x6, some (.inl x), x8] st M := a_ild (i := 7) (Or.inr ⟨hd, hp⟩) rfl kk
theorem a_il_7_11 {x0 x1 x2 x3 x4 x5 x6 x8 x9 x10 : Option OV} {x : Int32} (hd : decode cc pc = .ok (.iload 7, 2)) (hp : pc + 2 = pc') (kk : AW G cc own 11 fr lo rt Φ pc' [x0, x1, x2, x3, x4, x5, x6, some (.inl x), x8, x9, x10] (.inl x :: st) M) : AW G cc own 11 fr lo rt Φ pc [x0, x1, x2, x3, x4, x5, x6, some (.inl x), x8, x9, x10] st M := a_ild (i := 7) (Or.inr ⟨hd, hp⟩) rfl kk
theorem a_il_8_9 {x0 x1 x2 x3 x4 x5 x6 x7 : Option OV} {x : Int32} (hd : decode cc pc = .ok (.iload 8, 2)) (hp : pc + 2 = pc') (kk : AW G cc own 9 fr lo rt Φ pc' [x0, x1, x2, x3, x4, x5, x6, x7, some (.inl x)] (.inl x :: st) M) : AW G cc own 9 fr lo rt Φ pc [x0, x1, x2, x3, x4, x5, x6, x7, some (.inl x)] st M := a_ild (i := 8) (Or.inr ⟨hd, hp⟩) rfl kk
theorem a_il_8_11 {x0 x1 x2 x3 x4 x5 x6 x7 x9 x10 : Option OV} {x : Int32} (hd : decode cc pc = .ok (.iload 8, 2)) (hp : pc + 2 = pc') (kk : AW G cc own 11 fr lo rt Φ pc' [x0, x1, x2, x3, x4, x5, x6, x7, some (.inl x), x9, x10] (.inl x :: st) M) : AW G cc own 11 fr lo rt Φ pc [x0, x1, x2, x3, x4, x5, x6, x7, some (.inl x), x9, x10] st M := a_ild (i := 8) (Or.inr ⟨hd, hp⟩) rfl kk
theorem a_il_9_11 {x0 x1 x2 x3 x4 x5 x6 x7 x8 x10 : Option OV} {x : Int32} (hd : decode cc pc = .ok (.iload 9, 2)) (hp : pc + 2 = pc') (kk : AW G cc own 11 fr lo rt Φ pc' [x0, x1, x2, x3, x4, x5, x6, x7, x8, some (.inl x), x10] (.inl x :: st) M) : AW G cc own 11 fr lo rt Φ pc [x0, x1, x2, x3, x4, x5, x6, x7, x8, some (.inl x), x10] st M := a_ild (i := 9) (Or.inr ⟨hd, hp⟩) rfl kk
theorem a_il_10_11 {x0 x1 x2 x3 x4 x5 x6 x7 x8 x9 : Option OV} {x : Int32} (hd : decode cc pc = .ok (.iload 10, 2)) (hp : pc + 2 = pc') (kk : AW G cc own 11 fr lo rt Φ pc' [x0, x1, x2, x3, x4, x5, x6, x7, x8, x9, some (.inl x)] (.inl x :: st) M) : AW G cc own 11 fr lo rt Φ pc [x0, x1, x2, x3, x4, x5, x6, x7, x8, x9, some (.inl x)] st M := a_ild (i := 10) (Or.inr ⟨hd, hp⟩) rfl kk
theorem a_is_0_1 {y : Option OV} {x : Int32} (hd : decode cc pc = .ok (.istore_n 0, 1)) (hp : pc + 1 = pc') (kk : AW G cc own 1 fr lo rt Φ pc' [some (.inl x)] st M) : AW G cc own 1 fr lo rt Φ pc [y] (.inl x :: st) M := a_ist (i := 0) (by decide) (Or.inl ⟨0, rfl, hd, hp⟩) kk
theorem a_is_1_2 {x0 : Option OV} {y : Option OV} {x : Int32} (hd : decode cc pc = .ok (.istore_n 1, 1)) (hp : pc + 1 = pc') (kk : AW G cc own 2 fr lo rt Φ pc' [x0, some (.inl x)] st M) : AW G cc own 2 fr lo rt Φ pc [x0, y] (.inl x :: st) M := a_ist (i := 1) (by decide) (Or.inl ⟨1, rfl, hd, hp⟩) kk
theorem a_is_1_3 {x0 x2 : Option OV} {y : Option OV} {x : Int32} (hd : decode cc pc = .ok (.istore_n 1, 1)) (hp : pc + 1 = pc') (kk : AW G cc own 3 fr lo rt Φ pc' [x0, some (.inl x), x2] st M) : AW G cc own 3 fr lo rt Φ pc [x0, y, x2] (.inl x :: st) M := a_ist (i := 1) (by decide) (Or.inl ⟨1, rfl, hd, hp⟩) kk
theorem a_is_1_4 {x0 x2 x3 : Option OV} {y : Option OV} {x : Int32} (hd : decode cc pc = .ok (.istore_n 1, 1)) (hp : pc + 1 = pc') (kk : AW G cc own 4 fr lo rt Φ pc' [x0, some (.inl x), x2, x3] st M) : AW G cc own 4 fr lo rt Φ pc [x0, y, x2, x3] (.inl x :: st) M := a_ist (i := 1) (by decide) (Or.inl ⟨1, rfl, hd, hp⟩) kk
theorem a_is_1_5 {x0 x2 x3 x4 : Option OV} {y : Option OV} {x : Int32} (hd : decode cc pc = .ok (.istore_n 1, 1)) (hp : pc + 1 = pc') (kk : AW G cc own 5 fr lo rt Φ pc' [x0, some (.inl x), x2, x3, x4] st M) : AW G cc own 5 fr lo rt Φ pc [x0, y, x2, x3, x4] (.inl x :: st) M := a_ist (i := 1) (by decide) (Or.inl ⟨1, rfl, hd, hp⟩) kk
theorem a_is_2_3 {x0 x1 : Option OV} {y : Option OV} {x : Int32} (hd : decode cc pc = .ok (.istore_n 2, 1)) (hp : pc + 1 = pc') (kk : AW G cc own 3 fr lo rt Φ pc' [x0, x1, some (.inl x)] st M) : AW G cc own 3 fr lo rt Φ pc [x0, x1, y] (.inl x :: st) M := a_ist (i := 2) (by decide) (Or.inl ⟨2, rfl, hd, hp⟩) kk
theorem a_is_2_4 {x0 x1 x3 : Option OV} {y : Option OV} {x : Int32} (hd : decode cc pc = .ok (.istore_n 2, 1)) (hp : pc + 1 = pc') (kk : AW G cc own 4 fr lo rt Φ pc' [x0, x1, some (.inl x), x3] st M) : AW G cc own 4 fr lo rt Φ pc [x0, x1, y, x3] (.inl x :: st) M := a_ist (i := 2) (by decide) (Or.inl ⟨2, rfl, hd, hp⟩) kk
theorem a_is_2_5 {x0 x1 x3 x4 : Option OV} {y : Option OV} {x : Int32} (hd : decode cc pc = .ok (.istore_n 2, 1)) (hp : pc + 1 = pc') (kk : AW G cc own 5 fr lo rt Φ pc' [x0, x1, some (.inl x), x3, x4] st M) : AW G cc own 5 fr lo rt Φ pc [x0, x1, y, x3, x4] (.inl x :: st) M := a_ist (i := 2) (by decide) (Or.inl ⟨2, rfl, hd, hp⟩) kk
theorem a_is_2_7 {x0 x1 x3 x4 x5 x6 : Option OV} {y : Option OV} {x : Int32} (hd : decode cc pc = .ok (.istore_n 2, 1)) (hp : pc + 1 = pc') (kk : AW G cc own 7 fr lo rt Φ pc' [x0, x1, some (.inl x), x3, x4, x5, x6] st M) : AW G cc own 7 fr lo rt Φ pc [x0, x1, y, x3, x4, x5, x6] (.inl x :: st) M := a_ist (i := 2) (by decide) (Or.inl ⟨2, rfl, hd, hp⟩) kk
theorem a_is_3_4 {x0 x1 x2 : Option OV} {y : Option OV} {x : Int32} (hd : decode cc pc = .ok (.istore_n 3, 1)) (hp : pc + 1 = pc') (kk : AW G cc own 4 fr lo rt Φ pc' [x0, x1, x2, some (.inl x)] st M) : AW G cc own 4 fr lo rt Φ pc [x0, x1, x2, y] (.inl x :: st) M := a_ist (i := 3) (by decide) (Or.inl ⟨3, rfl, hd, hp⟩) kk
theorem a_is_3_5 {x0 x1 x2 x4 : Option OV} {y : Option OV} {x : Int32} (hd : decode cc pc = .ok (.istore_n 3, 1)) (hp : pc + 1 = pc') (kk : AW G cc own 5 fr lo rt Φ pc' [x0, x1, x2, some (.inl x), x4] st M) : AW G cc own 5 fr lo rt Φ pc [x0, x1, x2, y, x4] (.inl x :: st) M := a_ist (i := 3) (by decide) (Or.inl ⟨3, rfl, hd, hp⟩) kk
theorem a_is_3_6 {x0 x1 x2 x4 x5 : Option OV} {y : Option OV} {x : Int32} (hd : decode cc pc = .ok (.istore_n 3, 1)) (hp : pc + 1 = pc') (kk : AW G cc own 6 fr lo rt Φ pc' [x0, x1, x2, some (.inl x), x4, x5] st M) : AW G cc own 6 fr lo rt Φ pc [x0, x1, x2, y, x4, x5] (.inl x :: st) M := a_ist (i := 3) (by decide) (Or.inl ⟨3, rfl, hd, hp⟩) kk
theorem a_is_3_7 {x0 x1 x2 x4 x5 x6 : Option OV} {y : Option OV} {x : Int32} (hd : decode cc pc = .ok (.istore_n 3, 1)) (hp : pc + 1 = pc') (kk : AW G cc own 7 fr lo rt Φ pc' [x0, x1, x2, some (.inl x), x4, x5, x6] st M) : AW G cc own 7 fr lo rt Φ pc [x0, x1, x2, y, x4, x5, x6] (.inl x :: st) M := a_ist (i := 3) (by decide) (Or.inl ⟨3, rfl, hd, hp⟩) kk
theorem a_is_3_9 {x0 x1 x2 x4 x5 x6 x7 x8 : Option OV} {y : Option OV} {x : Int32} (hd : decode cc pc = .ok (.istore_n 3, 1)) (hp : pc + 1 = pc') (kk : AW G cc own 9 fr lo rt Φ pc' [x0, x1, x2, some (.inl x), x4, x5, x6, x7, x8] st M) : AW G cc own 9 fr lo rt Φ pc [x0, x1, x2, y, x4, x5, x6, x7, x8] (.inl x :: st) M := a_ist (i := 3) (by decide) (Or.inl ⟨3, rfl, hd, hp⟩) kk
theorem a_is_4_5 {x0 x1 x2 x3 : Option OV} {y : Option OV} {x : Int32} (hd : decode cc pc = .ok (.istore 4, 2)) (hp : pc + 2 = pc') (kk : AW G cc own 5 fr lo rt Φ pc' [x0, x1, x2, x3, some (.inl x)] st M) : AW G cc own 5 fr lo rt Φ pc [x0, x1, x2, x3, y] (.inl x :: st) M := a_ist (i := 4) (by decide) (Or.inr ⟨hd, hp⟩) kk
theorem a_is_4_6 {x0 x1 x2 x3 x5 : Option OV} {y : Option OV} {x : Int32} (hd : decode cc pc = .ok (.istore 4, 2)) (hp : pc + 2 = pc') (kk : AW G cc own 6 fr lo rt Φ pc' [x0, x1, x2, x3, some (.inl x), x5] st M) : AW G cc own 6 fr lo rt Φ pc [x0, x1, x2, x3, y, x5] (.inl x :: st) M := a_ist (i := 4) (by decide) (Or.inr ⟨hd, hp⟩) kk
theorem a_is_4_7 {x0 x1 x2 x3 x5 x6 : Option OV} {y : Option OV} {x : Int32} (hd : decode cc pc = .ok (.istore 4, 2)) (hp : pc + 2 = pc') (kk : AW G cc own 7 fr lo rt Φ pc' [x0, x1, x2, x3, some (.inl x), x5, x6] st M) : AW G cc own 7 fr lo rt Φ pc [x0, x1, x2, x3, y, x5, x6] (.inl x :: st) M := a_ist (i := 4) (by decide) (Or.inr ⟨hd, hp⟩) kk
theorem a_is_4_9 {x0 x1 x2 x3 x5 x6 x7 x8 : Option OV} {y : Option OV} {x : Int32} (hd : decode cc pc = .ok (.istore 4, 2)) (hp : pc + 2 = pc') (kk : AW G cc own 9 fr lo rt Φ pc' [x0, x1, x2, x3, some (.inl x), x5, x6, x7, x8] st M) : AW G cc own 9 fr lo rt Φ pc [x0, x1, x2, x3, y, x5, x6, x7, x8] (.inl x :: st) M := a_ist (i := 4) (by decide) (Or.inr ⟨hd, hp⟩) kk
theorem a_is_5_6 {x0 x1 x2 x3 x4 : Option OV} {y : Option OV} {x : Int32} (hd : decode cc pc = .ok (.istore 5, 2)) (hp : pc + 2 = pc') (kk : AW G cc own 6 fr lo rt Φ pc' [x0, x1, x2, x3, x4, some (.inl x)] st M) : AW G cc own 6 fr lo rt Φ pc [x0, x1, x2, x3, x4, y] (.inl x :: st) M := a_ist (i := 5) (by decide) (Or.inr ⟨hd, hp⟩) kk
theorem a_is_5_7 {x0 x1 x2 x3 x4 x6 : Option OV} {y : Option OV} {x : Int32} (hd : decode cc pc = .ok (.istore 5, 2)) (hp : pc + 2 = pc') (kk : AW G cc own 7 fr lo rt Φ pc' [x0, x1, x2, x3, x4, some (.inl x), x6] st M) : AW G cc own 7 fr lo rt Φ pc [x0, x1, x2, x3, x4, y, x6] (.inl x :: st) M := a_ist (i := 5) (by decide) (Or.inr ⟨hd, hp⟩) kk
theorem a_is_5_9 {x0 x1 x2 x3 x4 x6 x7 x8 : Option OV} {y : Option OV} {x : Int32} (hd : decode cc pc = .ok (.istore 5, 2)) (hp : pc + 2 = pc') (kk : AW G cc own 9 fr lo rt Φ pc' [x0, x1, x2, x3, x4, some (.inl x), x6, x7, x8] st M) : AW G cc own 9 fr lo rt Φ pc [x0, x1, x2, x3, x4, y, x6, x7, x8] (.inl x :: st) M := a_ist (i := 5) (by decide) (Or.inr ⟨hd, hp⟩) kk
theorem a_is_6_7 {x0 x1 x2 x3 x4 x5 : Option OV} {y : Option OV} {x : Int32} (hd : decode cc pc = .ok (.istore 6, 2)) (hp : pc + 2 = pc') (kk : AW G cc own 7 fr lo rt Φ pc' [x0, x1, x2, x3, x4, x5, some (.inl x)] st M) : AW G cc own 7 fr lo rt Φ pc [x0, x1, x2, x3, x4, x5, y] (.inl x :: st) M := a_ist (i := 6) (by decide) (Or.inr ⟨hd, hp⟩) kk
theorem a_is_6_9 {x0 x1 x2 x3 x4 x5 x7 x8 : Option OV} {y : Option OV} {x : Int32} (hd : decode cc pc = .ok (.istore 6, 2)) (hp : pc + 2 = pc') (kk : AW G cc own 9 fr lo rt Φ pc' [x0, x1, x2, x3, x4, x5, some (.inl x), x7, x8] st M) : AW G cc own 9 fr lo rt Φ pc [x0, x1, x2, x3, x4, x5, y, x7, x8] (.inl x :: st) M := a_ist (i := 6) (by decide) (Or.inr ⟨hd, hp⟩) kk
theorem a_is_7_9 {x0 x1 x2 x3 x4 x5 x6 x8 : Option OV} {y : Option OV} {x : Int32} (hd : decode cc pc = .ok (.istore 7, 2)) (hp : pc + 2 = pc') (kk : AW G cc own 9 fr lo rt Φ pc' [x0, x1, x2, x3, x4, x5, x6, some (.inl x), x8] st M) : AW G cc own 9 fr lo rt Φ pc [x0, x1, x2, x3, x4, x5, x6, y, x8] (.inl x :: st) M := a_ist (i := 7) (by decide) (Or.inr ⟨hd, hp⟩) kk
theorem a_is_7_11 {x0 x1 x2 x3 x4 x5 x6 x8 x9 x10 : Option OV} {y : Option OV} {x : Int32} (hd : decode cc pc = .ok (.istore 7, 2)) (hp : pc + 2 = pc') (kk : AW G cc own 11 fr lo rt Φ pc' [x0, x1, x2, x3, x4, x5, x6, some (.inl x), x8, x9, x10] st M) : AW G cc own 11 fr lo rt Φ pc [x0, x1, x2, x3, x4, x5, x6, y, x8, x9, x10] (.inl x :: st) M := a_ist (i := 7) (by decide) (Or.inr ⟨hd, hp⟩) kk
theorem a_is_8_9 {x0 x1 x2 x3 x4 x5 x6 x7 : Option OV} {y : Option OV} {x : Int32} (hd : decode cc pc = .ok (.istore 8, 2)) (hp : pc + 2 = pc') (kk : AW G cc own 9 fr lo rt Φ pc' [x0, x1, x2, x3, x4, x5, x6, x7, some (.inl x)] st M) : AW G cc own 9 fr lo rt Φ pc [x0, x1, x2, x3, x4, x5, x6, x7, y] (.inl x :: st) M := a_ist (i := 8) (by decide) (Or.inr ⟨hd, hp⟩) kk
theorem a_is_8_11 {x0 x1 x2 x3 x4 x5 x6 x7 x9 x10 : Option OV} {y : Option OV} {x : Int32} (hd : decode cc pc = .ok (.istore 8, 2)) (hp : pc + 2 = pc') (kk : AW G cc own 11 fr lo rt Φ pc' [x0, x1, x2, x3, x4, x5, x6, x7, some (.inl x), x9, x10] st M) : AW G cc own 11 fr lo rt Φ pc [x0, x1, x2, x3, x4, x5, x6, x7, y, x9, x10] (.inl x :: st) M := a_ist (i := 8) (by decide) (Or.inr ⟨hd, hp⟩) kk
theorem a_is_9_11 {x0 x1 x2 x3 x4 x5 x6 x7 x8 x10 : Option OV} {y : Option OV} {x : Int32} (hd : decode cc pc = .ok (.istore 9, 2)) (hp : pc + 2 = pc') (kk : AW G cc own 11 fr lo rt Φ pc' [x0, x1, x2, x3, x4, x5, x6, x7, x8, some (.inl x), x10] st M) : AW G cc own 11 fr lo rt Φ pc [x0, x1, x2, x3, x4, x5, x6, x7, x8, y, x10] (.inl x :: st) M := a_ist (i := 9) (by decide) (Or.inr ⟨hd, hp⟩) kk
theorem a_is_10_11 {x0 x1 x2 x3 x4 x5 x6 x7 x8 x9 : Option OV} {y : Option OV} {x : Int32} (hd : decode cc pc = .ok (.istore 10, 2)) (hp : pc + 2 = pc') (kk : AW G cc own 11 fr lo rt Φ pc' [x0, x1, x2, x3, x4, x5, x6, x7, x8, x9, some (.inl x)] st M) : AW G cc own 11 fr lo rt Φ pc [x0, x1, x2, x3, x4, x5, x6, x7, x8, x9, y] (.inl x :: st) M := a_ist (i := 10) (by decide) (Or.inr ⟨hd, hp⟩) kk
theorem a_iret {x : Int32} {ty : FieldType} (hd : decode cc pc = .ok (.ireturn, 1)) (hr : rt = some ty) (hn : narrow ty (.int x) = .int x) (hΦ : Φ (some (.inl x)) M) : AW G cc own nL fr lo rt Φ pc ls [.inl x] M := by
  intro A p l e R s m args below meth c cells slots Z H locs lsA hF hR hM hS hL
  exact hR (some (.inl x)) M H locs lsA pc hΦ hM hS ⟨⟨ty, hr, hn⟩, hd⟩
theorem a_vret (hd : decode cc pc = .ok (.return_, 1)) (hr : rt = none) (hΦ : Φ none M) : AW G cc own nL fr lo rt Φ pc ls [] M := by
  intro A p l e R s m args below meth c cells slots Z H locs lsA hF hR hM hS hL
  exact hR none M H locs lsA pc hΦ hM hS ⟨hr, hd⟩
theorem a_aret {x : Obj} {t : FieldType} (hd : decode cc pc = .ok (.areturn, 1)) (hr : rt = some (.array t)) (hΦ : Φ (some (.inr x)) M) : AW G cc own nL fr lo rt Φ pc ls [.inr x] M := by
  intro A p l e R s m args below meth c cells slots Z H locs lsA hF hR hM hS hL
  exact hR (some (.inr x)) M H locs lsA pc hΦ hM hS ⟨⟨t, hr⟩, hd⟩
theorem a_ext {M' : Mm} (h : ∀ r i, okO (ow r i) = true → M r i = M' r i) (kk : AW G cc own nL fr lo rt Φ pc ls st M') : AW G cc own nL fr lo rt Φ pc ls st M := by
  intro A p l e R s m args below meth c cells slots Z H locs lsA hF hR hM hS hL
  exact kk A p l e R s m args below meth c cells slots Z H locs lsA hF hR (hM.ext h) hS hL
theorem a_mem {M' : Mm} (h : M = M') (kk : AW G cc own nL fr lo rt Φ pc ls st M') : AW G cc own nL fr lo rt Φ pc ls st M := h ▸ kk
end Rows
end
section
section Objs
variable {G : Gl} {cc : ByteArray} {own : String} {nL fr lo : Nat} {rt : Option FieldType} {Φ : Option OV → Mm → Prop} {pc pc' : Nat} {ls : List (Option OV)} {st : List OV} {M : Mm}
theorem a_get {x : Obj} {ci : Nat} {fs : List Value} {C : String} {T : u_T} {N index : Nat} {v : OV} (ho : okO x = true) (he : ent G M x = .inr (ci, fs)) (hc : vwCl[ci]? = some (C, T, N)) (hin : ∀ w ∈ u_ws C T N, w ∈ lw_tbl) (k : Nat) (hk : k < N) (hw : Cond.fieldLink own index (T k).1 (T k).2.1 (T k).2.2.1 ∈ lw_tbl) (hv : fs[k]? = some (vlv G v)) (hd : decode cc pc = .ok (.getfield index, 3)) (hp : pc + 3 = pc') (kk : AW G cc own nL fr lo rt Φ pc' ls (v :: st) M) : AW G cc own nL fr lo rt Φ pc ls (.inr x :: st) M := by
  subst hp
  intro A p l e R s m args below meth c cells slots Z H locs lsA hF hR hM hS hL
  have hP : va_P G.1 vwCl [(G.2.1 x, .inr (ci, fs))] H := fun j q hj => by
    have hz : j < 1 := (List.getElem?_eq_some_iff.mp hj).1
    rw [show j = 0 by omega] at hj
    cases hj
    have := hM x ho
    rw [he] at this
    exact this
  exact va_get (ws := [(G.2.1 x, .inr (ci, fs))]) hF.1 hF.2.1 (Ts := u_ws C T N) (fun w h => hF.use (hin w h) (u_ws_ok w h)) (fun w h => h) hF.2.2.2.1 hF.2.2.2.2.2.2.2.2.1.1 hP 0 rfl hc k hk (hF.use hw rfl) (fun _ h => h) hv hd (kk A p l e R s m args below meth c cells slots Z H locs lsA hF hR hM hS hL)
theorem a_put {x : Obj} {ci : Nat} {fs : List Value} {C : String} {T : u_T} {N index r i : Nat} {y : Int32} {ty : FieldType} (ho : okO x = true) (he : ent G M x = .inr (ci, fs)) (hc : vwCl[ci]? = some (C, T, N)) (hin : ∀ w ∈ u_ws C T N, w ∈ lw_tbl) (ty0 : Nat → FieldType) (hty : ∀ k, k < N → parseFieldDescriptor (T k).2.2.1 = some (ty0 k)) (hnm : ∀ a, a < N → ∀ b, b < N → a ≠ b → (T a).2.1 ≠ (T b).2.1) (k : Nat) (hk : k < N) (hw : Cond.fieldLink own index (T k).1 (T k).2.1 (T k).2.2.1 ∈ lw_tbl) (hfin : (T k).2.2.2 = false) (hdt : parseFieldDescriptor (T k).2.2.1 = some ty) (hn : narrow ty (.int y) = .int y) (hfit : fits ty (.int y) = true) (hl : k < fs.length)
    (how : ow r i = x) (hnew : ent G (wr M r i y) x = .inr (ci, fs.set k (.int y))) (hd : decode cc pc = .ok (.putfield index, 3)) (hp : pc + 3 = pc') (kk : AW G cc own nL fr lo rt Φ pc' ls st (wr M r i y)) : AW G cc own nL fr lo rt Φ pc ls (.inl y :: .inr x :: st) M := by
  subst hp
  intro A p l e R s m args below meth c cells slots Z H locs lsA hF hR hM hS hL
  have hts : ∀ w ∈ u_ws C T N, w.before args s = true := fun w h => hF.use (hin w h) (u_ws_ok w h)
  have hK := hF.2.2.2.2.2.2.2.2.1.1
  have hap := va_apart (own := own) hts (fun w h => h) ty0 hty hnm hK hc
  have hx := hM x ho
  rw [he] at hx
  obtain ⟨q', h1, cell, q1, q2, q3, q4⟩ := hx
  have hr : q' = (C, T, N) := Option.some.inj (h1.symm.trans hc)
  subst hr
  obtain ⟨hSl, hfc, kC, hkC, hkind⟩ := hK.1 ci _ hc
  obtain ⟨cf, kf, fi, f, hi, hsl⟩ := hSl k hk
  have hlay := hts _ (u_in_lay hk)
  unfold u_lay at hlay
  rw [if_neg (by rw [hfin]; decide)] at hlay
  have hst := (u_facts hfc hkC (u_lays hts (fun w h => h) hk) hi).1
  have h6 := u_store hfc hkC hkind hlay hi hdt hn hfit
  refine W.putK hF.1 hF.2.1 (f := f) ⟨hF.2.2.2.1, hF.use hw rfl, ⟨_, _, _, hi⟩, hst⟩ (by rw [q2]; exact h6) q1 q3 (by rw [hsl]; exact k2_hasslot (q4 k hk)) rfl rfl hd fun H' e1 e2 e3 => ?_
  rw [hsl] at e1 ⊢
  refine kk A p l e R s m args below meth c cells slots Z H' _ lsA hF hR ?_ (hS.put e2 e3 (hF.2.2.2.2.2.2.2.2.2.2.2 _ ⟨x, ho, rfl⟩)) hL
  refine Mem.put hF.2.2.2.2.2.2.2.2.2.2.1 hM ho how ?_ e3
  rw [hnew]
  exact ⟨_, hc, t_OB.to (V := updV (vp_V fs) k (.int y)) ⟨_, e1, q2, q3, t_set q4 hap hk (.int y)⟩ (fun j _ => vp_updV_set hl (.int y) j)⟩
theorem wr_row (M : Mm) (r i : Nat) (y : Int32) : wr M r i y r = upd (M r) i y := by
  funext j
  by_cases h : j = i <;> simp [wr, upd, h]
theorem a_iald {r n : Nat} {i : Int32} (ho : okO (9, r, n, 0) = true) (hi : vp_in i n) (hd : decode cc pc = .ok (.iaload, 1)) (hp : pc + 1 = pc') (kk : AW G cc own nL fr lo rt Φ pc' ls (.inl (M r i.toNatClampNeg) :: st) M) : AW G cc own nL fr lo rt Φ pc ls (.inl i :: .inr (9, r, n, 0) :: st) M := by
  subst hp
  intro A p l e R s m args below meth c cells slots Z H locs lsA hF hR hM hS hL
  have hP : va_P G.1 vwCl [(G.2.1 (9, r, n, 0), .inl (G.2.2 9, n, .inl (M r)))] H := fun j q hj => by
    have hz : j < 1 := (List.getElem?_eq_some_iff.mp hj).1
    rw [show j = 0 by omega] at hj
    cases hj
    exact hM _ ho
  exact va_iald (D := G.1) (cl := vwCl) (tys := tysG G) hF.1 hF.2.1 hF.2.2.2.2.2.2.2.2.1.1 hP 0 1 rfl rfl hi hd (kk A p l e R s m args below meth c cells slots Z H locs lsA hF hR hM hS hL)
theorem ow8 {r n c i : Nat} (h : okO (8, r, n, c) = true) : ow r i = (8, r, n, c) := by
  simp only [okO, decide_eq_true_eq] at h
  obtain ⟨rfl, rfl, rfl⟩ := h
  rfl
theorem a_cald0 {r n : Nat} {i : Int32} (ho : okO (8, r, n, 0) = true) (hi : vp_in i n) (hd : decode cc pc = .ok (.caload, 1)) (hp : pc + 1 = pc') (kk : AW G cc own nL fr lo rt Φ pc' ls (.inl (M r i.toNatClampNeg) :: st) M) : AW G cc own nL fr lo rt Φ pc ls (.inl i :: .inr (8, r, n, 0) :: st) M := by
  subst hp
  intro A p l e R s m args below meth c cells slots Z H locs lsA hF hR hM hS hL
  have hP : va_P G.1 vwCl [(G.2.1 (8, r, n, 0), .inl (G.2.2 8, n, .inl (M r)))] H := fun j q hj => by
    have hz : j < 1 := (List.getElem?_eq_some_iff.mp hj).1
    rw [show j = 0 by omega] at hj
    cases hj
    exact hM _ ho
  exact va_cald (D := G.1) (cl := vwCl) (tys := tysG G) hF.1 hF.2.1 hF.2.2.2.2.2.2.2.2.1.1 hP 0 0 rfl rfl hi hd (kk A p l e R s m args below meth c cells slots Z H locs lsA hF hR hM hS hL)
theorem a_cald {i : Int32} (hi : vp_in i 80) (hd : decode cc pc = .ok (.caload, 1)) (hp : pc + 1 = pc') (kk : AW G cc own nL fr lo rt Φ pc' ls (.inl (M 22 i.toNatClampNeg) :: st) M) : AW G cc own nL fr lo rt Φ pc ls (.inl i :: .inr (8, 22, 80, 0) :: st) M := a_cald0 (r := 22) (n := 80) rfl hi hd hp kk
theorem upd_updV (f : Nat → Int32) (i : Nat) (y : Int32) : (fun j => Value.int (upd f i y j)) = updV (fun j => .int (f j)) i (.int y) := by
  funext j
  by_cases h : j = i <;> simp [updV, upd, h]
theorem a_iast {r n : Nat} {i y : Int32} (ho : okO (9, r, n, 0) = true) (hi : vp_in i n) (hd : decode cc pc = .ok (.iastore, 1)) (hp : pc + 1 = pc') (kk : AW G cc own nL fr lo rt Φ pc' ls st (wr M r i.toNatClampNeg y)) : AW G cc own nL fr lo rt Φ pc ls (.inl y :: .inl i :: .inr (9, r, n, 0) :: st) M := by
  subst hp
  intro A p l e R s m args below meth c cells slots Z H locs lsA hF hR hM hS hL
  have hx := hM _ ho
  refine W.iast hF.1 hF.2.1 (cell := vp_cell (G.2.2 9) (n, .inl (M r))) hx ((hF.2.2.2.2.2.2.2.2.1.1.2 1 _ rfl).1 n (fun j => .int (M r j))) (fun q => by cases q) (by show ¬ (i < 0 ∨ (arrV _ _ _).slots.size ≤ _); rw [arrV_size]; exact hi) rfl rfl hd fun H' e1 e2 e3 => ?_
  refine kk A p l e R s m args below meth c cells slots Z H' _ lsA hF hR ?_ (hS.put e2 e3 (hF.2.2.2.2.2.2.2.2.2.2.2 _ ⟨_, ho, rfl⟩)) hL
  refine Mem.put hF.2.2.2.2.2.2.2.2.2.2.1 hM ho (ow9 ho) ?_ e3
  show H'[_]? = some (vp_cell (G.2.2 9) (n, .inl (wr M r i.toNatClampNeg y r)))
  rw [e1, wr_row, vp_cell_i, vp_cell_i, arrV_store, upd_updV]
theorem a_cast0 {r n : Nat} {i y : Int32} (ho : okO (8, r, n, 0) = true) (hi : vp_in i n) (hy : narrow .char (.int y) = .int y) (hd : decode cc pc = .ok (.castore, 1)) (hp : pc + 1 = pc') (kk : AW G cc own nL fr lo rt Φ pc' ls st (wr M r i.toNatClampNeg y)) : AW G cc own nL fr lo rt Φ pc ls (.inl y :: .inl i :: .inr (8, r, n, 0) :: st) M := by
  subst hp
  intro A p l e R s m args below meth c cells slots Z H locs lsA hF hR hM hS hL
  have hx := hM _ ho
  refine W.cast hF.1 hF.2.1 (cell := vp_cell (G.2.2 8) (n, .inl (M r))) hx ((hF.2.2.2.2.2.2.2.2.1.1.2 0 _ rfl).1 n (fun j => .int (M r j))) (fun q => by cases q) (by show ¬ (i < 0 ∨ (arrV _ _ _).slots.size ≤ _); rw [arrV_size]; exact hi) rfl rfl hd fun H' e1 e2 e3 => ?_
  refine kk A p l e R s m args below meth c cells slots Z H' _ lsA hF hR ?_ (hS.put e2 e3 (hF.2.2.2.2.2.2.2.2.2.2.2 _ ⟨_, ho, rfl⟩)) hL
  refine Mem.put hF.2.2.2.2.2.2.2.2.2.2.1 hM ho (ow8 ho) ?_ e3
  show H'[_]? = some (vp_cell (G.2.2 8) (n, .inl (wr M r i.toNatClampNeg y r)))
  rw [e1, hy, wr_row, vp_cell_i, vp_cell_i, arrV_store, upd_updV]
theorem a_cast {i y : Int32} (hi : vp_in i 80) (hy : narrow .char (.int y) = .int y) (hd : decode cc pc = .ok (.castore, 1)) (hp : pc + 1 = pc') (kk : AW G cc own nL fr lo rt Φ pc' ls st (wr M 22 i.toNatClampNeg y)) : AW G cc own nL fr lo rt Φ pc ls (.inl y :: .inl i :: .inr (8, 22, 80, 0) :: st) M := a_cast0 (r := 22) (n := 80) rfl hi hy hd hp kk
theorem a_aald {x y : Obj} {kd n t0 : Nat} {f : Nat → Obj} {ty : FieldType} {i : Int32} (ho : okO x = true) (he : ent G M x = .inl (G.2.2 kd, n, .inr (.inr (.inr (.inr (rfR G n f)))))) (ht : (tysG G)[t0]? = some (G.2.2 kd, ty)) (hty : ty.isReference = true) (hi : vp_in i n) (hy : f i.toNatClampNeg = y) (hd : decode cc pc = .ok (.aaload, 1)) (hp : pc + 1 = pc') (kk : AW G cc own nL fr lo rt Φ pc' ls (.inr y :: st) M) : AW G cc own nL fr lo rt Φ pc ls (.inl i :: .inr x :: st) M := by
  subst hp
  subst hy
  intro A p l e R s m args below meth c cells slots Z H locs lsA hF hR hM hS hL
  have hlt : i.toNatClampNeg < n := Nat.not_le.mp fun q => hi (Or.inr q)
  have hx := hM _ ho
  rw [he] at hx
  exact W.aald (v := .ref (G.2.1 (f i.toNatClampNeg))) (ty := ty) hF.1 hF.2.1 (cell := vp_cell (G.2.2 kd) (n, .inr (.inr (.inr (.inr (rfR G n f)))))) hx ((hF.2.2.2.2.2.2.2.2.1.1.2 t0 _ ht).1 n (fun j => va_rf (rfR G n f j))) hty (fun q => by cases q) (by show ¬ (i < 0 ∨ (arrV _ _ _).slots.size ≤ _); rw [arrV_size]; exact hi) (by show (arrV _ _ _).slots[_]? = _; rw [arrV_read _ _ hlt, rfR, if_pos hlt]; rfl) rfl rfl hd (kk A p l e R s m args below meth c cells slots Z H locs lsA hF hR hM hS hL)
theorem a_gets {index : Nat} (hw : Cond.fieldLinkNest own index "ColdChain" "WARMING" "[I" "ColdChain" ∈ lw_tbl) (hd : decode cc pc = .ok (.getstatic index, 3)) (hp : pc + 3 = pc') (kk : AW G cc own nL fr lo rt Φ pc' ls (.inr (15, 0, 0, 0) :: st) M) : AW G cc own nL fr lo rt Φ pc ls st M := by
  subst hp
  intro A p l e R s m args below meth c cells slots Z H locs lsA hF hR hM hS hL
  exact va_getsN hF.1 hF.2.1 hF.2.2.2.2.2.2.2.2.2.1.1 hS hF.2.2.2.1 (hF.use hw rfl) (fun _ h => h) hd (kk A p l e R s m args below meth c cells slots Z H locs lsA hF hR hM hS hL)
theorem a_warm {i : Int32} (hi : vp_in i 3) (hd : decode cc pc = .ok (.iaload, 1)) (hp : pc + 1 = pc') (kk : AW G cc own nL fr lo rt Φ pc' ls (.inl (warmF i.toNatClampNeg) :: st) M) : AW G cc own nL fr lo rt Φ pc ls (.inl i :: .inr (15, 0, 0, 0) :: st) M := by
  subst hp
  intro A p l e R s m args below meth c cells slots Z H locs lsA hF hR hM hS hL
  obtain ⟨cell, h1, h2, h3, h4, h5, h6, h7⟩ := hF.2.2.2.2.2.2.2.2.2.1.2
  have hlt : i.toNatClampNeg < 3 := Nat.not_le.mp fun q => hi (Or.inr q)
  have hsz : H[G.2.1 (15, 0, 0, 0)]? = some cell := by rw [hS.2.1 _ (Array.getElem?_eq_some_iff.mp h1).1 h7]; exact h1
  exact W.iald (v := .int (warmF i.toNatClampNeg)) hF.1 hF.2.1 hsz h2 h3 (fun q => q.elim (fun z => hi (Or.inl z)) (fun z => absurd (Nat.lt_of_lt_of_le hlt h4) (Nat.not_lt.mpr z))) (h6 _ hlt) rfl rfl hd (kk A p l e R s m args below meth c cells slots Z H locs lsA hF hR hM hS hL)
theorem w_call {p : Program} {l : Launch} {e : Env} {R : Room} {s : State} {m : MethodId} {args : Array Value} {below : List Frame} {meth : Method} {c : Code} {H : Heap} {locs : List Loc} {cells slots : Nat} {Q : State → Prop} {lsA : Array Slot} {st0 rest : List Value} {Φ' : Option OV → Mm → Prop} {av : Array Value} {A : Nat → Prop}
    (hr : va_Run p l e R s m args below meth c H locs cells slots 0 0 (F0 m pc lsA st0) rest (QC G Φ' av) (AG G)) (hS : va_S A s.heap H locs) (hA : ∀ q, AG G q → A q)
    (kk : ∀ (v : Option OV) (M' : Mm) (H1 : Heap) (locs1 : List Loc), Φ' v M' → Mem G M' H1 → va_S A s.heap H1 locs1 → W p l e R s m args below meth c H1 locs1 cells slots Q (F0 m (pc + 3) lsA (v.toList.map (vlv G) ++ rest))) : W p l e R s m args below meth c H locs cells slots Q (F0 m pc lsA st0) := by
  intro T hT X
  obtain ⟨v, st₀, t, T', L, h0, X', hL, e1, e2, ⟨⟨ov, M', hv, hp, hb⟩, hz, hk⟩, stp⟩ := hr T hT X
  cases hv
  rw [h0] at hz hk
  have hS1 : va_S A s.heap T'.heap (locs ++ L) := ⟨Nat.le_trans hS.1 (by rw [e1]; exact hz), fun q h1 h2 => by rw [e1, hk q (Nat.lt_of_lt_of_le h1 hS.1) (fun z => h2 (hA q z))]; exact hS.2.1 q h1 h2, fun q hq => by
      rcases List.mem_append.mp hq with h | h
      · exact hS.2.2 q h
      · exact hA _ (hL q h)⟩
  obtain ⟨t2, a1, b1⟩ := kk ov M' T'.heap (locs ++ L) hp (by rw [e1]; exact hb) hS1 T' rfl X'
  refine ⟨t2, stp t2 ?_, b1⟩
  have e3 : (Option.map (vlv G) ov).toList = ov.toList.map (vlv G) := by cases ov <;> rfl
  rw [e3]
  exact a1
theorem w_rest {m : MethodId} {lsA : Array Slot} {rest0 : List Value} (G : Gl) {rest : List OV} (h : rest.length ≤ 8) : 2 * (F0 m pc lsA rest0).monitorRoom + ((rest.map (vlv G)).map fun v => v.category).sum ≤ 8 := by
  refine lv_room ?_
  have : ∀ r : List OV, ((r.map (vlv G)).map fun v => v.category).sum = r.length := by
    intro r
    induction r with
    | nil => rfl
    | cons a t ih => simp only [List.map_cons, List.sum_cons, vlv_cat, List.length_cons] at ih ⊢; omega
  rw [this]; exact h
/-- the words of a call of y by own's entry index -/
def CWd (own : String) (index : Nat) (y : MethodName) (cc' : ByteArray) (mL : Nat) (rt' : Option FieldType) (n : Nat) : Prop :=
  Cond.methodLink own index y ∈ lw_tbl ∧ Cond.code y cc' mL rt' ∈ lw_tbl ∧ Cond.initialized y.cls ∈ lw_tbl ∧ (y.cls ≠ "java/lang/invoke/MethodHandle" ∧ y.cls ≠ "java/lang/invoke/VarHandle") ∧ (parseMethodDescriptor y.desc).map (fun d => d.parameters.length) = some n
def CWdN (own : String) (index : Nat) (y : MethodName) (cc' : ByteArray) (mL : Nat) (rt' : Option FieldType) (n : Nat) : Prop :=
  Cond.methodLinkNest own index y "ColdChain" ∈ lw_tbl ∧ Cond.code y cc' mL rt' ∈ lw_tbl ∧ Cond.initialized y.cls ∈ lw_tbl ∧ (y.cls ≠ "java/lang/invoke/MethodHandle" ∧ y.cls ≠ "java/lang/invoke/VarHandle") ∧ (parseMethodDescriptor y.desc).map (fun d => d.parameters.length) = some n
theorem c_len {y : MethodName} {n : Nat} (h : (parseMethodDescriptor y.desc).map (fun d => d.parameters.length) = some n) : ∀ sig, parseMethodDescriptor y.desc = some sig → n = sig.parameters.length := by
  intro sig h2
  rw [h2] at h
  exact (Option.some.inj h).symm
theorem c_ws {s : State} {args : Array Value} {y : MethodName} {cc' : ByteArray} {mL : Nat} {rt' : Option FieldType} (h : (Cond.code y cc' mL rt').before args s = true) : ∀ w ∈ [Cond.code y cc' mL rt'], ∀ (a' : Array Value) (U : State), s.WarmedH U.vm → w.before a' U = true := by
  intro w hw a' U hW
  rw [List.mem_singleton.mp hw]
  exact word_at hW (Or.inl rfl) h
theorem c_pc {p : Program} {R : Room} {s : State} {m : MethodId} {c : Code} {cells slots : Nat} {A : Nat → Prop} {H : Heap} {locs : List Loc} {av : List OV} {M' : Mm} (hF : FrOK G A cc own nL fr lo p R s m c cells slots) (hM : Mem G M' H) (hS : va_S A s.heap H locs) : FrameBlind (PC G av M') ∧ ∀ U : State, U.heap = H → s.WarmedH U.vm → PC G av M' (av.map (vlv G)).toArray U :=
  ⟨PC.blind G av M', fun U hU hW => ⟨rfl, by rw [hU]; exact hM, hF.2.2.2.2.2.2.2.2.1.warm hW, by rw [hU]; exact ((hF.2.2.2.2.2.2.2.2.2.1.at hS).narrow hF.2.2.2.2.2.2.2.2.2.2.2).warm hW⟩⟩
theorem a_callS {y : MethodName} {cc' : ByteArray} {mL fr' lo' n index : Nat} {rt' : Option FieldType} {As rest st0 : List OV} {Φ' : Option OV → Mm → Prop} (hC : Ct y cc' mL rt' fr' lo' As M Φ') (hW : CWd own index y cc' mL rt' n) (hs : Cond.static y ∈ lw_tbl) (hn : As.length = n) (hfr : fr' + 1 ≤ fr) (hlo : 8 + (mL + 11) + lo' ≤ lo) (hrest : rest.length ≤ 8) (hst : st0 = As.reverse ++ rest) (hd : decode cc pc = .ok (.invokestatic index, 3)) (hp : pc + 3 = pc')
    (kk : ∀ v M', Φ' v M' → AW G cc own nL fr lo rt Φ pc' ls (v.toList ++ rest) M') : AW G cc own nL fr lo rt Φ pc ls st0 M := by
  subst hp
  subst hst
  intro A p l e R s m args below meth c cells slots Z H locs lsA hF hR hM hS hL
  have hcode := hF.use (args := args) hW.2.1 rfl
  have hcw : CallB R s args own index y cc' mL rt' [.code y cc' mL rt'] { frames := fr', cells := 0, slots := 0, locals := lo' } 0 0 n ∧ (Cond.static y).before args s = true :=
    ⟨⟨rfl, rfl, Nat.le_trans hfr hF.2.2.2.2.1, Nat.le_trans hlo hF.2.2.2.2.2.1, c_ws hcode, List.mem_cons_self, hcode, hF.use hW.2.2.1 rfl, hW.2.2.2.1, c_len hW.2.2.2.2, hF.use hW.1 rfl⟩, hF.use hs rfl⟩
  rw [List.map_append, List.map_reverse]
  refine w_call (va_runS (Ts := []) ⟨hF.1, hF.2.1, hF.2.2.1, hF.2.2.2.1, fun w h => absurd h List.not_mem_nil⟩ (hC G l hF.2.2.2.2.2.2.2.2.2.2.1) hcw (c_pc hF hM hS) rfl (by rw [List.length_map]; exact hn) hL.1 rfl (w_rest G hrest) hd ⟨by simpa using hF.2.2.2.2.2.2.1, by simpa using hF.2.2.2.2.2.2.2.1⟩) hS hF.2.2.2.2.2.2.2.2.2.2.2 (fun v M' H1 locs1 hΦ hM1 hS1 => ?_)
  rw [← List.map_append]
  exact kk v M' hΦ A p l e R s m args below meth c cells slots Z H1 locs1 lsA hF hR hM1 hS1 hL
theorem a_callSN {y : MethodName} {cc' : ByteArray} {mL fr' lo' n index : Nat} {rt' : Option FieldType} {As rest st0 : List OV} {Φ' : Option OV → Mm → Prop} (hC : Ct y cc' mL rt' fr' lo' As M Φ') (hW : CWdN own index y cc' mL rt' n) (hs : Cond.static y ∈ lw_tbl) (hn : As.length = n) (hfr : fr' + 1 ≤ fr) (hlo : 8 + (mL + 11) + lo' ≤ lo) (hrest : rest.length ≤ 8) (hst : st0 = As.reverse ++ rest) (hd : decode cc pc = .ok (.invokestatic index, 3)) (hp : pc + 3 = pc')
    (kk : ∀ v M', Φ' v M' → AW G cc own nL fr lo rt Φ pc' ls (v.toList ++ rest) M') : AW G cc own nL fr lo rt Φ pc ls st0 M := by
  subst hp
  subst hst
  intro A p l e R s m args below meth c cells slots Z H locs lsA hF hR hM hS hL
  have hcode := hF.use (args := args) hW.2.1 rfl
  have hcw : va_CN R s args own index y "ColdChain" cc' mL rt' [.code y cc' mL rt'] { frames := fr', cells := 0, slots := 0, locals := lo' } 0 0 n ∧ (Cond.static y).before args s = true ∧ True :=
    ⟨⟨⟨rfl, rfl, Nat.le_trans hfr hF.2.2.2.2.1, Nat.le_trans hlo hF.2.2.2.2.2.1, c_ws hcode, List.mem_cons_self⟩, hcode, hF.use hW.2.2.1 rfl, hW.2.2.2.1, c_len hW.2.2.2.2, hF.use hW.1 rfl⟩, hF.use hs rfl, trivial⟩
  rw [List.map_append, List.map_reverse]
  refine w_call (va_runSN (Ts := []) ⟨hF.1, hF.2.1, hF.2.2.1, hF.2.2.2.1, fun w h => absurd h List.not_mem_nil⟩ (hC G l hF.2.2.2.2.2.2.2.2.2.2.1) hcw (c_pc hF hM hS) rfl (by rw [List.length_map]; exact hn) hL.1 rfl (w_rest G hrest) hd ⟨by simpa using hF.2.2.2.2.2.2.1, by simpa using hF.2.2.2.2.2.2.2.1⟩) hS hF.2.2.2.2.2.2.2.2.2.2.2 (fun v M' H1 locs1 hΦ hM1 hS1 => ?_)
  rw [← List.map_append]
  exact kk v M' hΦ A p l e R s m args below meth c cells slots Z H1 locs1 lsA hF hR hM1 hS1 hL
theorem a_callV {y : MethodName} {cc' : ByteArray} {mL fr' lo' n index : Nat} {rt' : Option FieldType} {x : Obj} {As rest st0 : List OV} {Φ' : Option OV → Mm → Prop} {ci : Nat} {fs : List Value} {T : u_T} {N : Nat} (hC : Ct y cc' mL rt' fr' lo' (.inr x :: As) M Φ') (hW : CWd own index y cc' mL rt' n) (hs : Cond.instanceMethod y ∈ lw_tbl) (hse : Cond.selects y.cls y y ∈ lw_tbl) (ho : okO x = true) (he : ent G M x = .inr (ci, fs)) (hc : vwCl[ci]? = some (y.cls, T, N)) (hn : As.length = n) (hfr : fr' + 1 ≤ fr) (hlo : 8 + (mL + 11) + lo' ≤ lo) (hrest : rest.length ≤ 8) (hst : st0 = As.reverse ++ .inr x :: rest) (hd : decode cc pc = .ok (.invokevirtual index, 3)) (hp : pc + 3 = pc')
    (kk : ∀ v M', Φ' v M' → AW G cc own nL fr lo rt Φ pc' ls (v.toList ++ rest) M') : AW G cc own nL fr lo rt Φ pc ls st0 M := by
  subst hp
  subst hst
  intro A p l e R s m args below meth c cells slots Z H locs lsA hF hR hM hS hL
  have hcode := hF.use (args := args) hW.2.1 rfl
  have hcw : CallW R s args own y.cls index y cc' mL rt' [.code y cc' mL rt'] { frames := fr', cells := 0, slots := 0, locals := lo' } 0 0 n :=
    ⟨⟨rfl, rfl, Nat.le_trans hfr hF.2.2.2.2.1, Nat.le_trans hlo hF.2.2.2.2.2.1, c_ws hcode, List.mem_cons_self, hcode, hF.use hW.2.2.1 rfl, hW.2.2.2.1, c_len hW.2.2.2.2, hF.use hW.1 rfl⟩, hF.use hs rfl, hF.use hse rfl⟩
  have hx := hM x ho
  rw [he] at hx
  have hP : va_P G.1 vwCl [(G.2.1 x, .inr (ci, fs))] H := fun j q hj => by
    have hz : j < 1 := (List.getElem?_eq_some_iff.mp hj).1
    rw [show j = 0 by omega] at hj
    cases hj
    exact hx
  have hrc := va_recv (q0 := 0) (ws := [(G.2.1 x, .inr (ci, fs))]) hF.2.2.2.2.2.2.2.2.1.1 hP hc rfl
  have hpc := c_pc (av := .inr x :: As) hF hM hS
  rw [List.map_append, List.map_cons, List.map_reverse]
  refine w_call (va_runV (Ts := []) ⟨hF.1, hF.2.1, hF.2.2.1, hF.2.2.2.1, fun w h => absurd h List.not_mem_nil⟩ (hC G l hF.2.2.2.2.2.2.2.2.2.2.1) hcw ⟨hpc.1, hrc, hpc.2⟩ rfl (by rw [List.length_map]; exact hn) hL.1 rfl (w_rest G hrest) hd ⟨by simpa using hF.2.2.2.2.2.2.1, by simpa using hF.2.2.2.2.2.2.2.1⟩) hS hF.2.2.2.2.2.2.2.2.2.2.2 (fun v M' H1 locs1 hΦ hM1 hS1 => ?_)
  rw [← List.map_append]
  exact kk v M' hΦ A p l e R s m args below meth c cells slots Z H1 locs1 lsA hF hR hM1 hS1 hL
/-- an int answer r and ints M1 -/
abbrev RI (r : Int32) (M1 : Mm) : Option OV → Mm → Prop := fun v M' => v = some (.inl r) ∧ M' = M1
abbrev RB (b : Bool) (M1 : Mm) : Option OV → Mm → Prop := fun v M' => v = some (.inl (if b then 1 else 0)) ∧ M' = M1
abbrev RV (M1 : Mm) : Option OV → Mm → Prop := fun v M' => v = none ∧ M' = M1
abbrev RO (x : Obj) (M1 : Mm) : Option OV → Mm → Prop := fun v M' => v = some (.inr x) ∧ M' = M1
theorem n_01 {y : Int32} (h : y = 0 ∨ y = 1) : narrow .boolean (.int y) = .int y ∧ fits .boolean (.int y) = true := by rcases h with rfl | rfl <;> exact ⟨rfl, rfl⟩
theorem n_bool (b : Bool) : narrow .boolean (.int (if b then 1 else 0)) = .int (if b then 1 else 0) := by cases b <;> rfl
theorem gf_0_0 {index : Nat} (hw : Cond.fieldLink own index "ColdChain$History" "temperatures" "[[I" ∈ lw_tbl) (hd : decode cc pc = .ok (.getfield index, 3)) (hp : pc + 3 = pc') (kk : AW G cc own nL fr lo rt Φ pc' ls (.inr (14, 0, 0, 0) :: st) M) : AW G cc own nL fr lo rt Φ pc ls (.inr (0, 0, 0, 0) :: st) M := a_get (v := .inr (14, 0, 0, 0)) (C := RX0) (T := TX0) (N := 2) rfl rfl rfl inX0 0 (by decide) hw rfl hd hp kk
theorem gf_0_1 {index : Nat} (hw : Cond.fieldLink own index "ColdChain$History" "toldOnes" "[[I" ∈ lw_tbl) (hd : decode cc pc = .ok (.getfield index, 3)) (hp : pc + 3 = pc') (kk : AW G cc own nL fr lo rt Φ pc' ls (.inr (14, 1, 0, 0) :: st) M) : AW G cc own nL fr lo rt Φ pc ls (.inr (0, 0, 0, 0) :: st) M := a_get (v := .inr (14, 1, 0, 0)) (C := RX0) (T := TX0) (N := 2) rfl rfl rfl inX0 1 (by decide) hw rfl hd hp kk
theorem gf_1_0 {q p : Nat} {index : Nat} (hq : q < 9) (hv : p < 12) (hw : Cond.fieldLink own index "ColdChain$Pallet" "van" "I" ∈ lw_tbl) (hd : decode cc pc = .ok (.getfield index, 3)) (hp : pc + 3 = pc') (kk : AW G cc own nL fr lo rt Φ pc' ls (.inl (M q (63 + 10 * p)) :: st) M) : AW G cc own nL fr lo rt Φ pc ls (.inr (1, q, p, 0) :: st) M := a_get (v := .inl (M q (63 + 10 * p))) (C := RX1) (T := TX1) (N := 10) (by simp [okO, hq, hv]) rfl rfl inX1 0 (by decide) hw rfl hd hp kk
theorem pf_1_0 {q p : Nat} {index : Nat} {y : Int32} (hq : q < 9) (hv : p < 12) (hw : Cond.fieldLink own index "ColdChain$Pallet" "van" "I" ∈ lw_tbl) (hd : decode cc pc = .ok (.putfield index, 3)) (hp : pc + 3 = pc') (kk : AW G cc own nL fr lo rt Φ pc' ls st (wr M q (63 + 10 * p) y)) : AW G cc own nL fr lo rt Φ pc ls (.inl y :: .inr (1, q, p, 0) :: st) M := a_put (r := q) (i := (63 + 10 * p)) (C := RX1) (T := TX1) (N := 10) (ty := .int) (by simp [okO, hq, hv]) rfl rfl inX1 tyX1 tyX1_ok nmX1 0 (by decide) hw rfl (by decide +kernel) rfl rfl (by show 0 < 10; decide) (ow1 (j := 0) hq (by decide)) (by simp [ent, wr]) hd hp kk
theorem gf_1_1 {q p : Nat} {index : Nat} (hq : q < 9) (hv : p < 12) (hw : Cond.fieldLink own index "ColdChain$Pallet" "zone" "I" ∈ lw_tbl) (hd : decode cc pc = .ok (.getfield index, 3)) (hp : pc + 3 = pc') (kk : AW G cc own nL fr lo rt Φ pc' ls (.inl (M q (63 + 10 * p + 1)) :: st) M) : AW G cc own nL fr lo rt Φ pc ls (.inr (1, q, p, 0) :: st) M := a_get (v := .inl (M q (63 + 10 * p + 1))) (C := RX1) (T := TX1) (N := 10) (by simp [okO, hq, hv]) rfl rfl inX1 1 (by decide) hw rfl hd hp kk
theorem pf_1_1 {q p : Nat} {index : Nat} {y : Int32} (hq : q < 9) (hv : p < 12) (hw : Cond.fieldLink own index "ColdChain$Pallet" "zone" "I" ∈ lw_tbl) (hd : decode cc pc = .ok (.putfield index, 3)) (hp : pc + 3 = pc') (kk : AW G cc own nL fr lo rt Φ pc' ls st (wr M q (63 + 10 * p + 1) y)) : AW G cc own nL fr lo rt Φ pc ls (.inl y :: .inr (1, q, p, 0) :: st) M := a_put (r := q) (i := (63 + 10 * p + 1)) (C := RX1) (T := TX1) (N := 10) (ty := .int) (by simp [okO, hq, hv]) rfl rfl inX1 tyX1 tyX1_ok nmX1 1 (by decide) hw rfl (by decide +kernel) rfl rfl (by show 1 < 10; decide) (ow1 (j := 1) hq (by decide)) (by simp [ent, wr]) hd hp kk
theorem gf_1_2 {q p : Nat} {index : Nat} (hq : q < 9) (hv : p < 12) (hw : Cond.fieldLink own index "ColdChain$Pallet" "limit" "I" ∈ lw_tbl) (hd : decode cc pc = .ok (.getfield index, 3)) (hp : pc + 3 = pc') (kk : AW G cc own nL fr lo rt Φ pc' ls (.inl (M q (63 + 10 * p + 2)) :: st) M) : AW G cc own nL fr lo rt Φ pc ls (.inr (1, q, p, 0) :: st) M := a_get (v := .inl (M q (63 + 10 * p + 2))) (C := RX1) (T := TX1) (N := 10) (by simp [okO, hq, hv]) rfl rfl inX1 2 (by decide) hw rfl hd hp kk
theorem pf_1_2 {q p : Nat} {index : Nat} {y : Int32} (hq : q < 9) (hv : p < 12) (hw : Cond.fieldLink own index "ColdChain$Pallet" "limit" "I" ∈ lw_tbl) (hd : decode cc pc = .ok (.putfield index, 3)) (hp : pc + 3 = pc') (kk : AW G cc own nL fr lo rt Φ pc' ls st (wr M q (63 + 10 * p + 2) y)) : AW G cc own nL fr lo rt Φ pc ls (.inl y :: .inr (1, q, p, 0) :: st) M := a_put (r := q) (i := (63 + 10 * p + 2)) (C := RX1) (T := TX1) (N := 10) (ty := .int) (by simp [okO, hq, hv]) rfl rfl inX1 tyX1 tyX1_ok nmX1 2 (by decide) hw rfl (by decide +kernel) rfl rfl (by show 2 < 10; decide) (ow1 (j := 2) hq (by decide)) (by simp [ent, wr]) hd hp kk
theorem gf_1_3 {q p : Nat} {index : Nat} (hq : q < 9) (hv : p < 12) (hw : Cond.fieldLink own index "ColdChain$Pallet" "allowance" "I" ∈ lw_tbl) (hd : decode cc pc = .ok (.getfield index, 3)) (hp : pc + 3 = pc') (kk : AW G cc own nL fr lo rt Φ pc' ls (.inl (M q (63 + 10 * p + 3)) :: st) M) : AW G cc own nL fr lo rt Φ pc ls (.inr (1, q, p, 0) :: st) M := a_get (v := .inl (M q (63 + 10 * p + 3))) (C := RX1) (T := TX1) (N := 10) (by simp [okO, hq, hv]) rfl rfl inX1 3 (by decide) hw rfl hd hp kk
theorem pf_1_3 {q p : Nat} {index : Nat} {y : Int32} (hq : q < 9) (hv : p < 12) (hw : Cond.fieldLink own index "ColdChain$Pallet" "allowance" "I" ∈ lw_tbl) (hd : decode cc pc = .ok (.putfield index, 3)) (hp : pc + 3 = pc') (kk : AW G cc own nL fr lo rt Φ pc' ls st (wr M q (63 + 10 * p + 3) y)) : AW G cc own nL fr lo rt Φ pc ls (.inl y :: .inr (1, q, p, 0) :: st) M := a_put (r := q) (i := (63 + 10 * p + 3)) (C := RX1) (T := TX1) (N := 10) (ty := .int) (by simp [okO, hq, hv]) rfl rfl inX1 tyX1 tyX1_ok nmX1 3 (by decide) hw rfl (by decide +kernel) rfl rfl (by show 3 < 10; decide) (ow1 (j := 3) hq (by decide)) (by simp [ent, wr]) hd hp kk
theorem gf_1_4 {q p : Nat} {index : Nat} (hq : q < 9) (hv : p < 12) (hw : Cond.fieldLink own index "ColdChain$Pallet" "value" "I" ∈ lw_tbl) (hd : decode cc pc = .ok (.getfield index, 3)) (hp : pc + 3 = pc') (kk : AW G cc own nL fr lo rt Φ pc' ls (.inl (M q (63 + 10 * p + 4)) :: st) M) : AW G cc own nL fr lo rt Φ pc ls (.inr (1, q, p, 0) :: st) M := a_get (v := .inl (M q (63 + 10 * p + 4))) (C := RX1) (T := TX1) (N := 10) (by simp [okO, hq, hv]) rfl rfl inX1 4 (by decide) hw rfl hd hp kk
theorem pf_1_4 {q p : Nat} {index : Nat} {y : Int32} (hq : q < 9) (hv : p < 12) (hw : Cond.fieldLink own index "ColdChain$Pallet" "value" "I" ∈ lw_tbl) (hd : decode cc pc = .ok (.putfield index, 3)) (hp : pc + 3 = pc') (kk : AW G cc own nL fr lo rt Φ pc' ls st (wr M q (63 + 10 * p + 4) y)) : AW G cc own nL fr lo rt Φ pc ls (.inl y :: .inr (1, q, p, 0) :: st) M := a_put (r := q) (i := (63 + 10 * p + 4)) (C := RX1) (T := TX1) (N := 10) (ty := .int) (by simp [okO, hq, hv]) rfl rfl inX1 tyX1 tyX1_ok nmX1 4 (by decide) hw rfl (by decide +kernel) rfl rfl (by show 4 < 10; decide) (ow1 (j := 4) hq (by decide)) (by simp [ent, wr]) hd hp kk
theorem gf_1_5 {q p : Nat} {index : Nat} (hq : q < 9) (hv : p < 12) (hw : Cond.fieldLink own index "ColdChain$Pallet" "state" "I" ∈ lw_tbl) (hd : decode cc pc = .ok (.getfield index, 3)) (hp : pc + 3 = pc') (kk : AW G cc own nL fr lo rt Φ pc' ls (.inl (M q (63 + 10 * p + 5)) :: st) M) : AW G cc own nL fr lo rt Φ pc ls (.inr (1, q, p, 0) :: st) M := a_get (v := .inl (M q (63 + 10 * p + 5))) (C := RX1) (T := TX1) (N := 10) (by simp [okO, hq, hv]) rfl rfl inX1 5 (by decide) hw rfl hd hp kk
theorem pf_1_5 {q p : Nat} {index : Nat} {y : Int32} (hq : q < 9) (hv : p < 12) (hw : Cond.fieldLink own index "ColdChain$Pallet" "state" "I" ∈ lw_tbl) (hd : decode cc pc = .ok (.putfield index, 3)) (hp : pc + 3 = pc') (kk : AW G cc own nL fr lo rt Φ pc' ls st (wr M q (63 + 10 * p + 5) y)) : AW G cc own nL fr lo rt Φ pc ls (.inl y :: .inr (1, q, p, 0) :: st) M := a_put (r := q) (i := (63 + 10 * p + 5)) (C := RX1) (T := TX1) (N := 10) (ty := .int) (by simp [okO, hq, hv]) rfl rfl inX1 tyX1 tyX1_ok nmX1 5 (by decide) hw rfl (by decide +kernel) rfl rfl (by show 5 < 10; decide) (ow1 (j := 5) hq (by decide)) (by simp [ent, wr]) hd hp kk
theorem gf_1_6 {q p : Nat} {index : Nat} (hq : q < 9) (hv : p < 12) (hw : Cond.fieldLink own index "ColdChain$Pallet" "openMinutes" "I" ∈ lw_tbl) (hd : decode cc pc = .ok (.getfield index, 3)) (hp : pc + 3 = pc') (kk : AW G cc own nL fr lo rt Φ pc' ls (.inl (M q (63 + 10 * p + 6)) :: st) M) : AW G cc own nL fr lo rt Φ pc ls (.inr (1, q, p, 0) :: st) M := a_get (v := .inl (M q (63 + 10 * p + 6))) (C := RX1) (T := TX1) (N := 10) (by simp [okO, hq, hv]) rfl rfl inX1 6 (by decide) hw rfl hd hp kk
theorem pf_1_6 {q p : Nat} {index : Nat} {y : Int32} (hq : q < 9) (hv : p < 12) (hw : Cond.fieldLink own index "ColdChain$Pallet" "openMinutes" "I" ∈ lw_tbl) (hd : decode cc pc = .ok (.putfield index, 3)) (hp : pc + 3 = pc') (kk : AW G cc own nL fr lo rt Φ pc' ls st (wr M q (63 + 10 * p + 6) y)) : AW G cc own nL fr lo rt Φ pc ls (.inl y :: .inr (1, q, p, 0) :: st) M := a_put (r := q) (i := (63 + 10 * p + 6)) (C := RX1) (T := TX1) (N := 10) (ty := .int) (by simp [okO, hq, hv]) rfl rfl inX1 tyX1 tyX1_ok nmX1 6 (by decide) hw rfl (by decide +kernel) rfl rfl (by show 6 < 10; decide) (ow1 (j := 6) hq (by decide)) (by simp [ent, wr]) hd hp kk
theorem gf_1_7 {q p : Nat} {index : Nat} (hq : q < 9) (hv : p < 12) (hw : Cond.fieldLink own index "ColdChain$Pallet" "closedMinutes" "I" ∈ lw_tbl) (hd : decode cc pc = .ok (.getfield index, 3)) (hp : pc + 3 = pc') (kk : AW G cc own nL fr lo rt Φ pc' ls (.inl (M q (63 + 10 * p + 7)) :: st) M) : AW G cc own nL fr lo rt Φ pc ls (.inr (1, q, p, 0) :: st) M := a_get (v := .inl (M q (63 + 10 * p + 7))) (C := RX1) (T := TX1) (N := 10) (by simp [okO, hq, hv]) rfl rfl inX1 7 (by decide) hw rfl hd hp kk
theorem pf_1_7 {q p : Nat} {index : Nat} {y : Int32} (hq : q < 9) (hv : p < 12) (hw : Cond.fieldLink own index "ColdChain$Pallet" "closedMinutes" "I" ∈ lw_tbl) (hd : decode cc pc = .ok (.putfield index, 3)) (hp : pc + 3 = pc') (kk : AW G cc own nL fr lo rt Φ pc' ls st (wr M q (63 + 10 * p + 7) y)) : AW G cc own nL fr lo rt Φ pc ls (.inl y :: .inr (1, q, p, 0) :: st) M := a_put (r := q) (i := (63 + 10 * p + 7)) (C := RX1) (T := TX1) (N := 10) (ty := .int) (by simp [okO, hq, hv]) rfl rfl inX1 tyX1 tyX1_ok nmX1 7 (by decide) hw rfl (by decide +kernel) rfl rfl (by show 7 < 10; decide) (ow1 (j := 7) hq (by decide)) (by simp [ent, wr]) hd hp kk
theorem gf_1_8 {q p : Nat} {index : Nat} (hq : q < 9) (hv : p < 12) (hw : Cond.fieldLink own index "ColdChain$Pallet" "toldMinutes" "I" ∈ lw_tbl) (hd : decode cc pc = .ok (.getfield index, 3)) (hp : pc + 3 = pc') (kk : AW G cc own nL fr lo rt Φ pc' ls (.inl (M q (63 + 10 * p + 8)) :: st) M) : AW G cc own nL fr lo rt Φ pc ls (.inr (1, q, p, 0) :: st) M := a_get (v := .inl (M q (63 + 10 * p + 8))) (C := RX1) (T := TX1) (N := 10) (by simp [okO, hq, hv]) rfl rfl inX1 8 (by decide) hw rfl hd hp kk
theorem pf_1_8 {q p : Nat} {index : Nat} {y : Int32} (hq : q < 9) (hv : p < 12) (hw : Cond.fieldLink own index "ColdChain$Pallet" "toldMinutes" "I" ∈ lw_tbl) (hd : decode cc pc = .ok (.putfield index, 3)) (hp : pc + 3 = pc') (kk : AW G cc own nL fr lo rt Φ pc' ls st (wr M q (63 + 10 * p + 8) y)) : AW G cc own nL fr lo rt Φ pc ls (.inl y :: .inr (1, q, p, 0) :: st) M := a_put (r := q) (i := (63 + 10 * p + 8)) (C := RX1) (T := TX1) (N := 10) (ty := .int) (by simp [okO, hq, hv]) rfl rfl inX1 tyX1 tyX1_ok nmX1 8 (by decide) hw rfl (by decide +kernel) rfl rfl (by show 8 < 10; decide) (ow1 (j := 8) hq (by decide)) (by simp [ent, wr]) hd hp kk
theorem gf_1_9 {q p : Nat} {index : Nat} (hq : q < 9) (hv : p < 12) (hw : Cond.fieldLink own index "ColdChain$Pallet" "part" "I" ∈ lw_tbl) (hd : decode cc pc = .ok (.getfield index, 3)) (hp : pc + 3 = pc') (kk : AW G cc own nL fr lo rt Φ pc' ls (.inl (M q (63 + 10 * p + 9)) :: st) M) : AW G cc own nL fr lo rt Φ pc ls (.inr (1, q, p, 0) :: st) M := a_get (v := .inl (M q (63 + 10 * p + 9))) (C := RX1) (T := TX1) (N := 10) (by simp [okO, hq, hv]) rfl rfl inX1 9 (by decide) hw rfl hd hp kk
theorem pf_1_9 {q p : Nat} {index : Nat} {y : Int32} (hq : q < 9) (hv : p < 12) (hw : Cond.fieldLink own index "ColdChain$Pallet" "part" "I" ∈ lw_tbl) (hd : decode cc pc = .ok (.putfield index, 3)) (hp : pc + 3 = pc') (kk : AW G cc own nL fr lo rt Φ pc' ls st (wr M q (63 + 10 * p + 9) y)) : AW G cc own nL fr lo rt Φ pc ls (.inl y :: .inr (1, q, p, 0) :: st) M := a_put (r := q) (i := (63 + 10 * p + 9)) (C := RX1) (T := TX1) (N := 10) (ty := .int) (by simp [okO, hq, hv]) rfl rfl inX1 tyX1 tyX1_ok nmX1 9 (by decide) hw rfl (by decide +kernel) rfl rfl (by show 9 < 10; decide) (ow1 (j := 9) hq (by decide)) (by simp [ent, wr]) hd hp kk
theorem gf_2_0 {index : Nat} (hw : Cond.fieldLink own index "ColdChain$Script" "text" "[C" ∈ lw_tbl) (hd : decode cc pc = .ok (.getfield index, 3)) (hp : pc + 3 = pc') (kk : AW G cc own nL fr lo rt Φ pc' ls (.inr (8, 22, 80, 0) :: st) M) : AW G cc own nL fr lo rt Φ pc ls (.inr (2, 0, 0, 0) :: st) M := a_get (v := .inr (8, 22, 80, 0)) (C := RX2) (T := TX2) (N := 7) rfl rfl rfl inX2 0 (by decide) hw rfl hd hp kk
theorem gf_2_1 {index : Nat} (hw : Cond.fieldLink own index "ColdChain$Script" "length" "I" ∈ lw_tbl) (hd : decode cc pc = .ok (.getfield index, 3)) (hp : pc + 3 = pc') (kk : AW G cc own nL fr lo rt Φ pc' ls (.inl (M 21 0) :: st) M) : AW G cc own nL fr lo rt Φ pc ls (.inr (2, 0, 0, 0) :: st) M := a_get (v := .inl (M 21 0)) (C := RX2) (T := TX2) (N := 7) rfl rfl rfl inX2 1 (by decide) hw rfl hd hp kk
theorem pf_2_1 {index : Nat} {y : Int32} (hw : Cond.fieldLink own index "ColdChain$Script" "length" "I" ∈ lw_tbl) (hd : decode cc pc = .ok (.putfield index, 3)) (hp : pc + 3 = pc') (kk : AW G cc own nL fr lo rt Φ pc' ls st (wr M 21 0 y)) : AW G cc own nL fr lo rt Φ pc ls (.inl y :: .inr (2, 0, 0, 0) :: st) M := a_put (r := 21) (i := 0) (C := RX2) (T := TX2) (N := 7) (ty := .int) rfl rfl rfl inX2 tyX2 tyX2_ok nmX2 1 (by decide) hw rfl (by decide +kernel) rfl rfl (by show 1 < 7; decide) rfl (by simp [ent, wr]) hd hp kk
theorem gf_2_2 {index : Nat} (hw : Cond.fieldLink own index "ColdChain$Script" "at" "I" ∈ lw_tbl) (hd : decode cc pc = .ok (.getfield index, 3)) (hp : pc + 3 = pc') (kk : AW G cc own nL fr lo rt Φ pc' ls (.inl (M 21 1) :: st) M) : AW G cc own nL fr lo rt Φ pc ls (.inr (2, 0, 0, 0) :: st) M := a_get (v := .inl (M 21 1)) (C := RX2) (T := TX2) (N := 7) rfl rfl rfl inX2 2 (by decide) hw rfl hd hp kk
theorem pf_2_2 {index : Nat} {y : Int32} (hw : Cond.fieldLink own index "ColdChain$Script" "at" "I" ∈ lw_tbl) (hd : decode cc pc = .ok (.putfield index, 3)) (hp : pc + 3 = pc') (kk : AW G cc own nL fr lo rt Φ pc' ls st (wr M 21 1 y)) : AW G cc own nL fr lo rt Φ pc ls (.inl y :: .inr (2, 0, 0, 0) :: st) M := a_put (r := 21) (i := 1) (C := RX2) (T := TX2) (N := 7) (ty := .int) rfl rfl rfl inX2 tyX2 tyX2_ok nmX2 2 (by decide) hw rfl (by decide +kernel) rfl rfl (by show 2 < 7; decide) rfl (by simp [ent, wr]) hd hp kk
theorem gf_2_3 {index : Nat} (hw : Cond.fieldLink own index "ColdChain$Script" "letters" "[I" ∈ lw_tbl) (hd : decode cc pc = .ok (.getfield index, 3)) (hp : pc + 3 = pc') (kk : AW G cc own nL fr lo rt Φ pc' ls (.inr (9, 23, 80, 0) :: st) M) : AW G cc own nL fr lo rt Φ pc ls (.inr (2, 0, 0, 0) :: st) M := a_get (v := .inr (9, 23, 80, 0)) (C := RX2) (T := TX2) (N := 7) rfl rfl rfl inX2 3 (by decide) hw rfl hd hp kk
theorem gf_2_4 {index : Nat} (hw : Cond.fieldLink own index "ColdChain$Script" "firsts" "[I" ∈ lw_tbl) (hd : decode cc pc = .ok (.getfield index, 3)) (hp : pc + 3 = pc') (kk : AW G cc own nL fr lo rt Φ pc' ls (.inr (9, 24, 80, 0) :: st) M) : AW G cc own nL fr lo rt Φ pc ls (.inr (2, 0, 0, 0) :: st) M := a_get (v := .inr (9, 24, 80, 0)) (C := RX2) (T := TX2) (N := 7) rfl rfl rfl inX2 4 (by decide) hw rfl hd hp kk
theorem gf_2_5 {index : Nat} (hw : Cond.fieldLink own index "ColdChain$Script" "seconds" "[I" ∈ lw_tbl) (hd : decode cc pc = .ok (.getfield index, 3)) (hp : pc + 3 = pc') (kk : AW G cc own nL fr lo rt Φ pc' ls (.inr (9, 25, 80, 0) :: st) M) : AW G cc own nL fr lo rt Φ pc ls (.inr (2, 0, 0, 0) :: st) M := a_get (v := .inr (9, 25, 80, 0)) (C := RX2) (T := TX2) (N := 7) rfl rfl rfl inX2 5 (by decide) hw rfl hd hp kk
theorem gf_2_6 {index : Nat} (hw : Cond.fieldLink own index "ColdChain$Script" "commandCount" "I" ∈ lw_tbl) (hd : decode cc pc = .ok (.getfield index, 3)) (hp : pc + 3 = pc') (kk : AW G cc own nL fr lo rt Φ pc' ls (.inl (M 21 2) :: st) M) : AW G cc own nL fr lo rt Φ pc ls (.inr (2, 0, 0, 0) :: st) M := a_get (v := .inl (M 21 2)) (C := RX2) (T := TX2) (N := 7) rfl rfl rfl inX2 6 (by decide) hw rfl hd hp kk
theorem pf_2_6 {index : Nat} {y : Int32} (hw : Cond.fieldLink own index "ColdChain$Script" "commandCount" "I" ∈ lw_tbl) (hd : decode cc pc = .ok (.putfield index, 3)) (hp : pc + 3 = pc') (kk : AW G cc own nL fr lo rt Φ pc' ls st (wr M 21 2 y)) : AW G cc own nL fr lo rt Φ pc ls (.inl y :: .inr (2, 0, 0, 0) :: st) M := a_put (r := 21) (i := 2) (C := RX2) (T := TX2) (N := 7) (ty := .int) rfl rfl rfl inX2 tyX2 tyX2_ok nmX2 6 (by decide) hw rfl (by decide +kernel) rfl rfl (by show 6 < 7; decide) rfl (by simp [ent, wr]) hd hp kk
theorem gf_3_0 {q : Nat} {index : Nat} (hq : q < 9) (hw : Cond.fieldLink own index "ColdChain$State" "time" "I" ∈ lw_tbl) (hd : decode cc pc = .ok (.getfield index, 3)) (hp : pc + 3 = pc') (kk : AW G cc own nL fr lo rt Φ pc' ls (.inl (M q 2) :: st) M) : AW G cc own nL fr lo rt Φ pc ls (.inr (3, q, 0, 0) :: st) M := a_get (v := .inl (M q 2)) (C := RX3) (T := TX3) (N := 8) (by simp [okO, hq]) rfl rfl inX3 0 (by decide) hw rfl hd hp kk
theorem pf_3_0 {q : Nat} {index : Nat} {y : Int32} (hq : q < 9) (hw : Cond.fieldLink own index "ColdChain$State" "time" "I" ∈ lw_tbl) (hd : decode cc pc = .ok (.putfield index, 3)) (hp : pc + 3 = pc') (kk : AW G cc own nL fr lo rt Φ pc' ls st (wr M q 2 y)) : AW G cc own nL fr lo rt Φ pc ls (.inl y :: .inr (3, q, 0, 0) :: st) M := a_put (r := q) (i := 2) (C := RX3) (T := TX3) (N := 8) (ty := .int) (by simp [okO, hq]) rfl rfl inX3 tyX3 tyX3_ok nmX3 0 (by decide) hw rfl (by decide +kernel) rfl rfl (by show 0 < 8; decide) (ow3 (j := 2) hq (by decide)) (by simp [ent, wr]) hd hp kk
theorem gf_3_1 {q : Nat} {index : Nat} (hq : q < 9) (hw : Cond.fieldLink own index "ColdChain$State" "outside" "I" ∈ lw_tbl) (hd : decode cc pc = .ok (.getfield index, 3)) (hp : pc + 3 = pc') (kk : AW G cc own nL fr lo rt Φ pc' ls (.inl (M q 3) :: st) M) : AW G cc own nL fr lo rt Φ pc ls (.inr (3, q, 0, 0) :: st) M := a_get (v := .inl (M q 3)) (C := RX3) (T := TX3) (N := 8) (by simp [okO, hq]) rfl rfl inX3 1 (by decide) hw rfl hd hp kk
theorem pf_3_1 {q : Nat} {index : Nat} {y : Int32} (hq : q < 9) (hw : Cond.fieldLink own index "ColdChain$State" "outside" "I" ∈ lw_tbl) (hd : decode cc pc = .ok (.putfield index, 3)) (hp : pc + 3 = pc') (kk : AW G cc own nL fr lo rt Φ pc' ls st (wr M q 3 y)) : AW G cc own nL fr lo rt Φ pc ls (.inl y :: .inr (3, q, 0, 0) :: st) M := a_put (r := q) (i := 3) (C := RX3) (T := TX3) (N := 8) (ty := .int) (by simp [okO, hq]) rfl rfl inX3 tyX3 tyX3_ok nmX3 1 (by decide) hw rfl (by decide +kernel) rfl rfl (by show 1 < 8; decide) (ow3 (j := 3) hq (by decide)) (by simp [ent, wr]) hd hp kk
theorem gf_3_2 {q : Nat} {index : Nat} (hq : q < 9) (hw : Cond.fieldLink own index "ColdChain$State" "difference" "I" ∈ lw_tbl) (hd : decode cc pc = .ok (.getfield index, 3)) (hp : pc + 3 = pc') (kk : AW G cc own nL fr lo rt Φ pc' ls (.inl (M q 4) :: st) M) : AW G cc own nL fr lo rt Φ pc ls (.inr (3, q, 0, 0) :: st) M := a_get (v := .inl (M q 4)) (C := RX3) (T := TX3) (N := 8) (by simp [okO, hq]) rfl rfl inX3 2 (by decide) hw rfl hd hp kk
theorem pf_3_2 {q : Nat} {index : Nat} {y : Int32} (hq : q < 9) (hw : Cond.fieldLink own index "ColdChain$State" "difference" "I" ∈ lw_tbl) (hd : decode cc pc = .ok (.putfield index, 3)) (hp : pc + 3 = pc') (kk : AW G cc own nL fr lo rt Φ pc' ls st (wr M q 4 y)) : AW G cc own nL fr lo rt Φ pc ls (.inl y :: .inr (3, q, 0, 0) :: st) M := a_put (r := q) (i := 4) (C := RX3) (T := TX3) (N := 8) (ty := .int) (by simp [okO, hq]) rfl rfl inX3 tyX3 tyX3_ok nmX3 2 (by decide) hw rfl (by decide +kernel) rfl rfl (by show 2 < 8; decide) (ow3 (j := 4) hq (by decide)) (by simp [ent, wr]) hd hp kk
theorem gf_3_3 {q : Nat} {index : Nat} (hq : q < 9) (hw : Cond.fieldLink own index "ColdChain$State" "patience" "I" ∈ lw_tbl) (hd : decode cc pc = .ok (.getfield index, 3)) (hp : pc + 3 = pc') (kk : AW G cc own nL fr lo rt Φ pc' ls (.inl (M q 5) :: st) M) : AW G cc own nL fr lo rt Φ pc ls (.inr (3, q, 0, 0) :: st) M := a_get (v := .inl (M q 5)) (C := RX3) (T := TX3) (N := 8) (by simp [okO, hq]) rfl rfl inX3 3 (by decide) hw rfl hd hp kk
theorem pf_3_3 {q : Nat} {index : Nat} {y : Int32} (hq : q < 9) (hw : Cond.fieldLink own index "ColdChain$State" "patience" "I" ∈ lw_tbl) (hd : decode cc pc = .ok (.putfield index, 3)) (hp : pc + 3 = pc') (kk : AW G cc own nL fr lo rt Φ pc' ls st (wr M q 5 y)) : AW G cc own nL fr lo rt Φ pc ls (.inl y :: .inr (3, q, 0, 0) :: st) M := a_put (r := q) (i := 5) (C := RX3) (T := TX3) (N := 8) (ty := .int) (by simp [okO, hq]) rfl rfl inX3 tyX3 tyX3_ok nmX3 3 (by decide) hw rfl (by decide +kernel) rfl rfl (by show 3 < 8; decide) (ow3 (j := 5) hq (by decide)) (by simp [ent, wr]) hd hp kk
theorem gf_3_4 {q : Nat} {index : Nat} (hq : q < 9) (hw : Cond.fieldLink own index "ColdChain$State" "vanCount" "I" ∈ lw_tbl) (hd : decode cc pc = .ok (.getfield index, 3)) (hp : pc + 3 = pc') (kk : AW G cc own nL fr lo rt Φ pc' ls (.inl (M q 0) :: st) M) : AW G cc own nL fr lo rt Φ pc ls (.inr (3, q, 0, 0) :: st) M := a_get (v := .inl (M q 0)) (C := RX3) (T := TX3) (N := 8) (by simp [okO, hq]) rfl rfl inX3 4 (by decide) hw rfl hd hp kk
theorem pf_3_4 {q : Nat} {index : Nat} {y : Int32} (hq : q < 9) (hw : Cond.fieldLink own index "ColdChain$State" "vanCount" "I" ∈ lw_tbl) (hd : decode cc pc = .ok (.putfield index, 3)) (hp : pc + 3 = pc') (kk : AW G cc own nL fr lo rt Φ pc' ls st (wr M q 0 y)) : AW G cc own nL fr lo rt Φ pc ls (.inl y :: .inr (3, q, 0, 0) :: st) M := a_put (r := q) (i := 0) (C := RX3) (T := TX3) (N := 8) (ty := .int) (by simp [okO, hq]) rfl rfl inX3 tyX3 tyX3_ok nmX3 4 (by decide) hw rfl (by decide +kernel) rfl rfl (by show 4 < 8; decide) (ow3 (j := 0) hq (by decide)) (by simp [ent, wr]) hd hp kk
theorem gf_3_5 {q : Nat} {index : Nat} (hq : q < 9) (hw : Cond.fieldLink own index "ColdChain$State" "palletCount" "I" ∈ lw_tbl) (hd : decode cc pc = .ok (.getfield index, 3)) (hp : pc + 3 = pc') (kk : AW G cc own nL fr lo rt Φ pc' ls (.inl (M q 1) :: st) M) : AW G cc own nL fr lo rt Φ pc ls (.inr (3, q, 0, 0) :: st) M := a_get (v := .inl (M q 1)) (C := RX3) (T := TX3) (N := 8) (by simp [okO, hq]) rfl rfl inX3 5 (by decide) hw rfl hd hp kk
theorem pf_3_5 {q : Nat} {index : Nat} {y : Int32} (hq : q < 9) (hw : Cond.fieldLink own index "ColdChain$State" "palletCount" "I" ∈ lw_tbl) (hd : decode cc pc = .ok (.putfield index, 3)) (hp : pc + 3 = pc') (kk : AW G cc own nL fr lo rt Φ pc' ls st (wr M q 1 y)) : AW G cc own nL fr lo rt Φ pc ls (.inl y :: .inr (3, q, 0, 0) :: st) M := a_put (r := q) (i := 1) (C := RX3) (T := TX3) (N := 8) (ty := .int) (by simp [okO, hq]) rfl rfl inX3 tyX3 tyX3_ok nmX3 5 (by decide) hw rfl (by decide +kernel) rfl rfl (by show 5 < 8; decide) (ow3 (j := 1) hq (by decide)) (by simp [ent, wr]) hd hp kk
theorem gf_3_6 {q : Nat} {index : Nat} (hq : q < 9) (hw : Cond.fieldLink own index "ColdChain$State" "vans" "[LColdChain$Van;" ∈ lw_tbl) (hd : decode cc pc = .ok (.getfield index, 3)) (hp : pc + 3 = pc') (kk : AW G cc own nL fr lo rt Φ pc' ls (.inr (12, q, 0, 0) :: st) M) : AW G cc own nL fr lo rt Φ pc ls (.inr (3, q, 0, 0) :: st) M := a_get (v := .inr (12, q, 0, 0)) (C := RX3) (T := TX3) (N := 8) (by simp [okO, hq]) rfl rfl inX3 6 (by decide) hw rfl hd hp kk
theorem gf_3_7 {q : Nat} {index : Nat} (hq : q < 9) (hw : Cond.fieldLink own index "ColdChain$State" "pallets" "[LColdChain$Pallet;" ∈ lw_tbl) (hd : decode cc pc = .ok (.getfield index, 3)) (hp : pc + 3 = pc') (kk : AW G cc own nL fr lo rt Φ pc' ls (.inr (10, q, 0, 0) :: st) M) : AW G cc own nL fr lo rt Φ pc ls (.inr (3, q, 0, 0) :: st) M := a_get (v := .inr (10, q, 0, 0)) (C := RX3) (T := TX3) (N := 8) (by simp [okO, hq]) rfl rfl inX3 7 (by decide) hw rfl hd hp kk
theorem gf_4_0 {q v : Nat} {index : Nat} (hq : q < 9) (hv : v < 3) (hw : Cond.fieldLink own index "ColdChain$Van" "setPoint" "I" ∈ lw_tbl) (hd : decode cc pc = .ok (.getfield index, 3)) (hp : pc + 3 = pc') (kk : AW G cc own nL fr lo rt Φ pc' ls (.inl (M q (6 + 19 * v)) :: st) M) : AW G cc own nL fr lo rt Φ pc ls (.inr (4, q, v, 0) :: st) M := a_get (v := .inl (M q (6 + 19 * v))) (C := RX4) (T := TX4) (N := 5) (by simp [okO, hq, hv]) rfl rfl inX4 0 (by decide) hw rfl hd hp kk
theorem pf_4_0 {q v : Nat} {index : Nat} {y : Int32} (hq : q < 9) (hv : v < 3) (hw : Cond.fieldLink own index "ColdChain$Van" "setPoint" "I" ∈ lw_tbl) (hd : decode cc pc = .ok (.putfield index, 3)) (hp : pc + 3 = pc') (kk : AW G cc own nL fr lo rt Φ pc' ls st (wr M q (6 + 19 * v) y)) : AW G cc own nL fr lo rt Φ pc ls (.inl y :: .inr (4, q, v, 0) :: st) M := a_put (r := q) (i := (6 + 19 * v)) (C := RX4) (T := TX4) (N := 5) (ty := .int) (by simp [okO, hq, hv]) rfl rfl inX4 tyX4 tyX4_ok nmX4 0 (by decide) hw rfl (by decide +kernel) rfl rfl (by show 0 < 5; decide) (ow4 (j := 0) hq hv (by decide)) (by simp [ent, wr]) hd hp kk
theorem gf_4_1 {q v : Nat} {index : Nat} (hq : q < 9) (hv : v < 3) (hw : Cond.fieldLink own index "ColdChain$Van" "cooling" "I" ∈ lw_tbl) (hd : decode cc pc = .ok (.getfield index, 3)) (hp : pc + 3 = pc') (kk : AW G cc own nL fr lo rt Φ pc' ls (.inl (M q (6 + 19 * v + 1)) :: st) M) : AW G cc own nL fr lo rt Φ pc ls (.inr (4, q, v, 0) :: st) M := a_get (v := .inl (M q (6 + 19 * v + 1))) (C := RX4) (T := TX4) (N := 5) (by simp [okO, hq, hv]) rfl rfl inX4 1 (by decide) hw rfl hd hp kk
theorem pf_4_1 {q v : Nat} {index : Nat} {y : Int32} (hq : q < 9) (hv : v < 3) (hw : Cond.fieldLink own index "ColdChain$Van" "cooling" "I" ∈ lw_tbl) (hd : decode cc pc = .ok (.putfield index, 3)) (hp : pc + 3 = pc') (kk : AW G cc own nL fr lo rt Φ pc' ls st (wr M q (6 + 19 * v + 1) y)) : AW G cc own nL fr lo rt Φ pc ls (.inl y :: .inr (4, q, v, 0) :: st) M := a_put (r := q) (i := (6 + 19 * v + 1)) (C := RX4) (T := TX4) (N := 5) (ty := .int) (by simp [okO, hq, hv]) rfl rfl inX4 tyX4 tyX4_ok nmX4 1 (by decide) hw rfl (by decide +kernel) rfl rfl (by show 1 < 5; decide) (ow4 (j := 1) hq hv (by decide)) (by simp [ent, wr]) hd hp kk
theorem gf_4_2 {q v : Nat} {index : Nat} (hq : q < 9) (hv : v < 3) (hw : Cond.fieldLink own index "ColdChain$Van" "open" "Z" ∈ lw_tbl) (hd : decode cc pc = .ok (.getfield index, 3)) (hp : pc + 3 = pc') (kk : AW G cc own nL fr lo rt Φ pc' ls (.inl (M q (6 + 19 * v + 2)) :: st) M) : AW G cc own nL fr lo rt Φ pc ls (.inr (4, q, v, 0) :: st) M := a_get (v := .inl (M q (6 + 19 * v + 2))) (C := RX4) (T := TX4) (N := 5) (by simp [okO, hq, hv]) rfl rfl inX4 2 (by decide) hw rfl hd hp kk
theorem pf_4_2 {q v : Nat} {index : Nat} {y : Int32} (hq : q < 9) (hv : v < 3) (hn : y = 0 ∨ y = 1) (hw : Cond.fieldLink own index "ColdChain$Van" "open" "Z" ∈ lw_tbl) (hd : decode cc pc = .ok (.putfield index, 3)) (hp : pc + 3 = pc') (kk : AW G cc own nL fr lo rt Φ pc' ls st (wr M q (6 + 19 * v + 2) y)) : AW G cc own nL fr lo rt Φ pc ls (.inl y :: .inr (4, q, v, 0) :: st) M := a_put (r := q) (i := (6 + 19 * v + 2)) (C := RX4) (T := TX4) (N := 5) (ty := .boolean) (by simp [okO, hq, hv]) rfl rfl inX4 tyX4 tyX4_ok nmX4 2 (by decide) hw rfl (by decide +kernel) (n_01 hn).1 (n_01 hn).2 (by show 2 < 5; decide) (ow4 (j := 2) hq hv (by decide)) (by simp [ent, wr]) hd hp kk
theorem gf_4_3 {q v : Nat} {index : Nat} (hq : q < 9) (hv : v < 3) (hw : Cond.fieldLink own index "ColdChain$Van" "addedAt" "I" ∈ lw_tbl) (hd : decode cc pc = .ok (.getfield index, 3)) (hp : pc + 3 = pc') (kk : AW G cc own nL fr lo rt Φ pc' ls (.inl (M q (6 + 19 * v + 3)) :: st) M) : AW G cc own nL fr lo rt Φ pc ls (.inr (4, q, v, 0) :: st) M := a_get (v := .inl (M q (6 + 19 * v + 3))) (C := RX4) (T := TX4) (N := 5) (by simp [okO, hq, hv]) rfl rfl inX4 3 (by decide) hw rfl hd hp kk
theorem pf_4_3 {q v : Nat} {index : Nat} {y : Int32} (hq : q < 9) (hv : v < 3) (hw : Cond.fieldLink own index "ColdChain$Van" "addedAt" "I" ∈ lw_tbl) (hd : decode cc pc = .ok (.putfield index, 3)) (hp : pc + 3 = pc') (kk : AW G cc own nL fr lo rt Φ pc' ls st (wr M q (6 + 19 * v + 3) y)) : AW G cc own nL fr lo rt Φ pc ls (.inl y :: .inr (4, q, v, 0) :: st) M := a_put (r := q) (i := (6 + 19 * v + 3)) (C := RX4) (T := TX4) (N := 5) (ty := .int) (by simp [okO, hq, hv]) rfl rfl inX4 tyX4 tyX4_ok nmX4 3 (by decide) hw rfl (by decide +kernel) rfl rfl (by show 3 < 5; decide) (ow4 (j := 3) hq hv (by decide)) (by simp [ent, wr]) hd hp kk
theorem gf_4_4 {q v : Nat} {index : Nat} (hq : q < 9) (hv : v < 3) (hw : Cond.fieldLink own index "ColdChain$Van" "zones" "[LColdChain$Zone;" ∈ lw_tbl) (hd : decode cc pc = .ok (.getfield index, 3)) (hp : pc + 3 = pc') (kk : AW G cc own nL fr lo rt Φ pc' ls (.inr (13, q, v, 0) :: st) M) : AW G cc own nL fr lo rt Φ pc ls (.inr (4, q, v, 0) :: st) M := a_get (v := .inr (13, q, v, 0)) (C := RX4) (T := TX4) (N := 5) (by simp [okO, hq, hv]) rfl rfl inX4 4 (by decide) hw rfl hd hp kk
theorem gf_5_0 {q v z : Nat} {index : Nat} (hq : q < 9) (hv : v < 3) (hz : z < 3) (hw : Cond.fieldLink own index "ColdChain$Zone" "temperature" "I" ∈ lw_tbl) (hd : decode cc pc = .ok (.getfield index, 3)) (hp : pc + 3 = pc') (kk : AW G cc own nL fr lo rt Φ pc' ls (.inl (M q (10 + 19 * v + 5 * z)) :: st) M) : AW G cc own nL fr lo rt Φ pc ls (.inr (5, q, v, z) :: st) M := a_get (v := .inl (M q (10 + 19 * v + 5 * z))) (C := RX5) (T := TX5) (N := 5) (by simp [okO, hq, hv, hz]) rfl rfl inX5 0 (by decide) hw rfl hd hp kk
theorem pf_5_0 {q v z : Nat} {index : Nat} {y : Int32} (hq : q < 9) (hv : v < 3) (hz : z < 3) (hw : Cond.fieldLink own index "ColdChain$Zone" "temperature" "I" ∈ lw_tbl) (hd : decode cc pc = .ok (.putfield index, 3)) (hp : pc + 3 = pc') (kk : AW G cc own nL fr lo rt Φ pc' ls st (wr M q (10 + 19 * v + 5 * z) y)) : AW G cc own nL fr lo rt Φ pc ls (.inl y :: .inr (5, q, v, z) :: st) M := a_put (r := q) (i := (10 + 19 * v + 5 * z)) (C := RX5) (T := TX5) (N := 5) (ty := .int) (by simp [okO, hq, hv, hz]) rfl rfl inX5 tyX5 tyX5_ok nmX5 0 (by decide) hw rfl (by decide +kernel) rfl rfl (by show 0 < 5; decide) (ow5 (j := 0) hq hv hz (by decide)) (by simp [ent, wr]) hd hp kk
theorem gf_5_1 {q v z : Nat} {index : Nat} (hq : q < 9) (hv : v < 3) (hz : z < 3) (hw : Cond.fieldLink own index "ColdChain$Zone" "mode" "I" ∈ lw_tbl) (hd : decode cc pc = .ok (.getfield index, 3)) (hp : pc + 3 = pc') (kk : AW G cc own nL fr lo rt Φ pc' ls (.inl (M q (10 + 19 * v + 5 * z + 1)) :: st) M) : AW G cc own nL fr lo rt Φ pc ls (.inr (5, q, v, z) :: st) M := a_get (v := .inl (M q (10 + 19 * v + 5 * z + 1))) (C := RX5) (T := TX5) (N := 5) (by simp [okO, hq, hv, hz]) rfl rfl inX5 1 (by decide) hw rfl hd hp kk
theorem pf_5_1 {q v z : Nat} {index : Nat} {y : Int32} (hq : q < 9) (hv : v < 3) (hz : z < 3) (hw : Cond.fieldLink own index "ColdChain$Zone" "mode" "I" ∈ lw_tbl) (hd : decode cc pc = .ok (.putfield index, 3)) (hp : pc + 3 = pc') (kk : AW G cc own nL fr lo rt Φ pc' ls st (wr M q (10 + 19 * v + 5 * z + 1) y)) : AW G cc own nL fr lo rt Φ pc ls (.inl y :: .inr (5, q, v, z) :: st) M := a_put (r := q) (i := (10 + 19 * v + 5 * z + 1)) (C := RX5) (T := TX5) (N := 5) (ty := .int) (by simp [okO, hq, hv, hz]) rfl rfl inX5 tyX5 tyX5_ok nmX5 1 (by decide) hw rfl (by decide +kernel) rfl rfl (by show 1 < 5; decide) (ow5 (j := 1) hq hv hz (by decide)) (by simp [ent, wr]) hd hp kk
theorem gf_5_2 {q v z : Nat} {index : Nat} (hq : q < 9) (hv : v < 3) (hz : z < 3) (hw : Cond.fieldLink own index "ColdChain$Zone" "value" "I" ∈ lw_tbl) (hd : decode cc pc = .ok (.getfield index, 3)) (hp : pc + 3 = pc') (kk : AW G cc own nL fr lo rt Φ pc' ls (.inl (M q (10 + 19 * v + 5 * z + 2)) :: st) M) : AW G cc own nL fr lo rt Φ pc ls (.inr (5, q, v, z) :: st) M := a_get (v := .inl (M q (10 + 19 * v + 5 * z + 2))) (C := RX5) (T := TX5) (N := 5) (by simp [okO, hq, hv, hz]) rfl rfl inX5 2 (by decide) hw rfl hd hp kk
theorem pf_5_2 {q v z : Nat} {index : Nat} {y : Int32} (hq : q < 9) (hv : v < 3) (hz : z < 3) (hw : Cond.fieldLink own index "ColdChain$Zone" "value" "I" ∈ lw_tbl) (hd : decode cc pc = .ok (.putfield index, 3)) (hp : pc + 3 = pc') (kk : AW G cc own nL fr lo rt Φ pc' ls st (wr M q (10 + 19 * v + 5 * z + 2) y)) : AW G cc own nL fr lo rt Φ pc ls (.inl y :: .inr (5, q, v, z) :: st) M := a_put (r := q) (i := (10 + 19 * v + 5 * z + 2)) (C := RX5) (T := TX5) (N := 5) (ty := .int) (by simp [okO, hq, hv, hz]) rfl rfl inX5 tyX5 tyX5_ok nmX5 2 (by decide) hw rfl (by decide +kernel) rfl rfl (by show 2 < 5; decide) (ow5 (j := 2) hq hv hz (by decide)) (by simp [ent, wr]) hd hp kk
theorem gf_5_3 {q v z : Nat} {index : Nat} (hq : q < 9) (hv : v < 3) (hz : z < 3) (hw : Cond.fieldLink own index "ColdChain$Zone" "found" "Z" ∈ lw_tbl) (hd : decode cc pc = .ok (.getfield index, 3)) (hp : pc + 3 = pc') (kk : AW G cc own nL fr lo rt Φ pc' ls (.inl (M q (10 + 19 * v + 5 * z + 3)) :: st) M) : AW G cc own nL fr lo rt Φ pc ls (.inr (5, q, v, z) :: st) M := a_get (v := .inl (M q (10 + 19 * v + 5 * z + 3))) (C := RX5) (T := TX5) (N := 5) (by simp [okO, hq, hv, hz]) rfl rfl inX5 3 (by decide) hw rfl hd hp kk
theorem pf_5_3 {q v z : Nat} {index : Nat} {y : Int32} (hq : q < 9) (hv : v < 3) (hz : z < 3) (hn : y = 0 ∨ y = 1) (hw : Cond.fieldLink own index "ColdChain$Zone" "found" "Z" ∈ lw_tbl) (hd : decode cc pc = .ok (.putfield index, 3)) (hp : pc + 3 = pc') (kk : AW G cc own nL fr lo rt Φ pc' ls st (wr M q (10 + 19 * v + 5 * z + 3) y)) : AW G cc own nL fr lo rt Φ pc ls (.inl y :: .inr (5, q, v, z) :: st) M := a_put (r := q) (i := (10 + 19 * v + 5 * z + 3)) (C := RX5) (T := TX5) (N := 5) (ty := .boolean) (by simp [okO, hq, hv, hz]) rfl rfl inX5 tyX5 tyX5_ok nmX5 3 (by decide) hw rfl (by decide +kernel) (n_01 hn).1 (n_01 hn).2 (by show 3 < 5; decide) (ow5 (j := 3) hq hv hz (by decide)) (by simp [ent, wr]) hd hp kk
theorem gf_5_4 {q v z : Nat} {index : Nat} (hq : q < 9) (hv : v < 3) (hz : z < 3) (hw : Cond.fieldLink own index "ColdChain$Zone" "oddMinutes" "I" ∈ lw_tbl) (hd : decode cc pc = .ok (.getfield index, 3)) (hp : pc + 3 = pc') (kk : AW G cc own nL fr lo rt Φ pc' ls (.inl (M q (10 + 19 * v + 5 * z + 4)) :: st) M) : AW G cc own nL fr lo rt Φ pc ls (.inr (5, q, v, z) :: st) M := a_get (v := .inl (M q (10 + 19 * v + 5 * z + 4))) (C := RX5) (T := TX5) (N := 5) (by simp [okO, hq, hv, hz]) rfl rfl inX5 4 (by decide) hw rfl hd hp kk
theorem pf_5_4 {q v z : Nat} {index : Nat} {y : Int32} (hq : q < 9) (hv : v < 3) (hz : z < 3) (hw : Cond.fieldLink own index "ColdChain$Zone" "oddMinutes" "I" ∈ lw_tbl) (hd : decode cc pc = .ok (.putfield index, 3)) (hp : pc + 3 = pc') (kk : AW G cc own nL fr lo rt Φ pc' ls st (wr M q (10 + 19 * v + 5 * z + 4) y)) : AW G cc own nL fr lo rt Φ pc ls (.inl y :: .inr (5, q, v, z) :: st) M := a_put (r := q) (i := (10 + 19 * v + 5 * z + 4)) (C := RX5) (T := TX5) (N := 5) (ty := .int) (by simp [okO, hq, hv, hz]) rfl rfl inX5 tyX5 tyX5_ok nmX5 4 (by decide) hw rfl (by decide +kernel) rfl rfl (by show 4 < 5; decide) (ow5 (j := 4) hq hv hz (by decide)) (by simp [ent, wr]) hd hp kk
theorem gf_6_0 {index : Nat} (hw : Cond.fieldLink own index "ColdChain" "now" "LColdChain$State;" ∈ lw_tbl) (hd : decode cc pc = .ok (.getfield index, 3)) (hp : pc + 3 = pc') (kk : AW G cc own nL fr lo rt Φ pc' ls (.inr (3, 0, 0, 0) :: st) M) : AW G cc own nL fr lo rt Φ pc ls (.inr (6, 0, 0, 0) :: st) M := a_get (v := .inr (3, 0, 0, 0)) (C := RX6) (T := TX6) (N := 7) rfl rfl rfl inX6 0 (by decide) hw rfl hd hp kk
theorem gf_6_1 {index : Nat} (hw : Cond.fieldLink own index "ColdChain" "trial" "LColdChain$State;" ∈ lw_tbl) (hd : decode cc pc = .ok (.getfield index, 3)) (hp : pc + 3 = pc') (kk : AW G cc own nL fr lo rt Φ pc' ls (.inr (3, 1, 0, 0) :: st) M) : AW G cc own nL fr lo rt Φ pc ls (.inr (6, 0, 0, 0) :: st) M := a_get (v := .inr (3, 1, 0, 0)) (C := RX6) (T := TX6) (N := 7) rfl rfl rfl inX6 1 (by decide) hw rfl hd hp kk
theorem gf_6_2 {index : Nat} (hw : Cond.fieldLink own index "ColdChain" "saved" "[LColdChain$State;" ∈ lw_tbl) (hd : decode cc pc = .ok (.getfield index, 3)) (hp : pc + 3 = pc') (kk : AW G cc own nL fr lo rt Φ pc' ls (.inr (11, 0, 0, 0) :: st) M) : AW G cc own nL fr lo rt Φ pc ls (.inr (6, 0, 0, 0) :: st) M := a_get (v := .inr (11, 0, 0, 0)) (C := RX6) (T := TX6) (N := 7) rfl rfl rfl inX6 2 (by decide) hw rfl hd hp kk
theorem gf_6_3 {index : Nat} (hw : Cond.fieldLink own index "ColdChain" "free" "I" ∈ lw_tbl) (hd : decode cc pc = .ok (.getfield index, 3)) (hp : pc + 3 = pc') (kk : AW G cc own nL fr lo rt Φ pc' ls (.inl (M 20 0) :: st) M) : AW G cc own nL fr lo rt Φ pc ls (.inr (6, 0, 0, 0) :: st) M := a_get (v := .inl (M 20 0)) (C := RX6) (T := TX6) (N := 7) rfl rfl rfl inX6 3 (by decide) hw rfl hd hp kk
theorem pf_6_3 {index : Nat} {y : Int32} (hw : Cond.fieldLink own index "ColdChain" "free" "I" ∈ lw_tbl) (hd : decode cc pc = .ok (.putfield index, 3)) (hp : pc + 3 = pc') (kk : AW G cc own nL fr lo rt Φ pc' ls st (wr M 20 0 y)) : AW G cc own nL fr lo rt Φ pc ls (.inl y :: .inr (6, 0, 0, 0) :: st) M := a_put (r := 20) (i := 0) (C := RX6) (T := TX6) (N := 7) (ty := .int) rfl rfl rfl inX6 tyX6 tyX6_ok nmX6 3 (by decide) hw rfl (by decide +kernel) rfl rfl (by show 3 < 7; decide) rfl (by simp [ent, wr]) hd hp kk
theorem gf_6_4 {index : Nat} (hw : Cond.fieldLink own index "ColdChain" "savedCount" "I" ∈ lw_tbl) (hd : decode cc pc = .ok (.getfield index, 3)) (hp : pc + 3 = pc') (kk : AW G cc own nL fr lo rt Φ pc' ls (.inl (M 20 1) :: st) M) : AW G cc own nL fr lo rt Φ pc ls (.inr (6, 0, 0, 0) :: st) M := a_get (v := .inl (M 20 1)) (C := RX6) (T := TX6) (N := 7) rfl rfl rfl inX6 4 (by decide) hw rfl hd hp kk
theorem pf_6_4 {index : Nat} {y : Int32} (hw : Cond.fieldLink own index "ColdChain" "savedCount" "I" ∈ lw_tbl) (hd : decode cc pc = .ok (.putfield index, 3)) (hp : pc + 3 = pc') (kk : AW G cc own nL fr lo rt Φ pc' ls st (wr M 20 1 y)) : AW G cc own nL fr lo rt Φ pc ls (.inl y :: .inr (6, 0, 0, 0) :: st) M := a_put (r := 20) (i := 1) (C := RX6) (T := TX6) (N := 7) (ty := .int) rfl rfl rfl inX6 tyX6 tyX6_ok nmX6 4 (by decide) hw rfl (by decide +kernel) rfl rfl (by show 4 < 7; decide) rfl (by simp [ent, wr]) hd hp kk
theorem gf_6_5 {index : Nat} (hw : Cond.fieldLink own index "ColdChain" "history" "LColdChain$History;" ∈ lw_tbl) (hd : decode cc pc = .ok (.getfield index, 3)) (hp : pc + 3 = pc') (kk : AW G cc own nL fr lo rt Φ pc' ls (.inr (0, 0, 0, 0) :: st) M) : AW G cc own nL fr lo rt Φ pc ls (.inr (6, 0, 0, 0) :: st) M := a_get (v := .inr (0, 0, 0, 0)) (C := RX6) (T := TX6) (N := 7) rfl rfl rfl inX6 5 (by decide) hw rfl hd hp kk
theorem gf_6_6 {index : Nat} (hw : Cond.fieldLink own index "ColdChain" "script" "LColdChain$Script;" ∈ lw_tbl) (hd : decode cc pc = .ok (.getfield index, 3)) (hp : pc + 3 = pc') (kk : AW G cc own nL fr lo rt Φ pc' ls (.inr (2, 0, 0, 0) :: st) M) : AW G cc own nL fr lo rt Φ pc ls (.inr (6, 0, 0, 0) :: st) M := a_get (v := .inr (2, 0, 0, 0)) (C := RX6) (T := TX6) (N := 7) rfl rfl rfl inX6 6 (by decide) hw rfl hd hp kk
theorem gf_7_0 {index : Nat} (hw : Cond.fieldLink own index "ColdChainModel" "s" "[I" ∈ lw_tbl) (hd : decode cc pc = .ok (.getfield index, 3)) (hp : pc + 3 = pc') (kk : AW G cc own nL fr lo rt Φ pc' ls (.inr (9, 50, 183, 0) :: st) M) : AW G cc own nL fr lo rt Φ pc ls (.inr (7, 0, 0, 0) :: st) M := a_get (v := .inr (9, 50, 183, 0)) (C := RX7) (T := TX7) (N := 12) rfl rfl rfl inX7 0 (by decide) hw rfl hd hp kk
theorem gf_7_1 {index : Nat} (hw : Cond.fieldLink own index "ColdChainModel" "past" "[I" ∈ lw_tbl) (hd : decode cc pc = .ok (.getfield index, 3)) (hp : pc + 3 = pc') (kk : AW G cc own nL fr lo rt Φ pc' ls (.inr (9, 51, 1098, 0) :: st) M) : AW G cc own nL fr lo rt Φ pc ls (.inr (7, 0, 0, 0) :: st) M := a_get (v := .inr (9, 51, 1098, 0)) (C := RX7) (T := TX7) (N := 12) rfl rfl rfl inX7 1 (by decide) hw rfl hd hp kk
theorem gf_7_2 {index : Nat} (hw : Cond.fieldLink own index "ColdChainModel" "aside" "[I" ∈ lw_tbl) (hd : decode cc pc = .ok (.getfield index, 3)) (hp : pc + 3 = pc') (kk : AW G cc own nL fr lo rt Φ pc' ls (.inr (9, 52, 183, 0) :: st) M) : AW G cc own nL fr lo rt Φ pc ls (.inr (7, 0, 0, 0) :: st) M := a_get (v := .inr (9, 52, 183, 0)) (C := RX7) (T := TX7) (N := 12) rfl rfl rfl inX7 2 (by decide) hw rfl hd hp kk
theorem gf_7_3 {index : Nat} (hw : Cond.fieldLink own index "ColdChainModel" "kept" "[I" ∈ lw_tbl) (hd : decode cc pc = .ok (.getfield index, 3)) (hp : pc + 3 = pc') (kk : AW G cc own nL fr lo rt Φ pc' ls (.inr (9, 53, 183, 0) :: st) M) : AW G cc own nL fr lo rt Φ pc ls (.inr (7, 0, 0, 0) :: st) M := a_get (v := .inr (9, 53, 183, 0)) (C := RX7) (T := TX7) (N := 12) rfl rfl rfl inX7 3 (by decide) hw rfl hd hp kk
theorem gf_7_4 {index : Nat} (hw : Cond.fieldLink own index "ColdChainModel" "pasts" "I" ∈ lw_tbl) (hd : decode cc pc = .ok (.getfield index, 3)) (hp : pc + 3 = pc') (kk : AW G cc own nL fr lo rt Φ pc' ls (.inl (M 60 0) :: st) M) : AW G cc own nL fr lo rt Φ pc ls (.inr (7, 0, 0, 0) :: st) M := a_get (v := .inl (M 60 0)) (C := RX7) (T := TX7) (N := 12) rfl rfl rfl inX7 4 (by decide) hw rfl hd hp kk
theorem pf_7_4 {index : Nat} {y : Int32} (hw : Cond.fieldLink own index "ColdChainModel" "pasts" "I" ∈ lw_tbl) (hd : decode cc pc = .ok (.putfield index, 3)) (hp : pc + 3 = pc') (kk : AW G cc own nL fr lo rt Φ pc' ls st (wr M 60 0 y)) : AW G cc own nL fr lo rt Φ pc ls (.inl y :: .inr (7, 0, 0, 0) :: st) M := a_put (r := 60) (i := 0) (C := RX7) (T := TX7) (N := 12) (ty := .int) rfl rfl rfl inX7 tyX7 tyX7_ok nmX7 4 (by decide) hw rfl (by decide +kernel) rfl rfl (by show 4 < 12; decide) rfl (by simp [ent, wr]) hd hp kk
theorem gf_7_5 {index : Nat} (hw : Cond.fieldLink own index "ColdChainModel" "log" "[I" ∈ lw_tbl) (hd : decode cc pc = .ok (.getfield index, 3)) (hp : pc + 3 = pc') (kk : AW G cc own nL fr lo rt Φ pc' ls (.inr (9, 54, 10800, 0) :: st) M) : AW G cc own nL fr lo rt Φ pc ls (.inr (7, 0, 0, 0) :: st) M := a_get (v := .inr (9, 54, 10800, 0)) (C := RX7) (T := TX7) (N := 12) rfl rfl rfl inX7 5 (by decide) hw rfl hd hp kk
theorem gf_7_6 {index : Nat} (hw : Cond.fieldLink own index "ColdChainModel" "isReal" "Z" ∈ lw_tbl) (hd : decode cc pc = .ok (.getfield index, 3)) (hp : pc + 3 = pc') (kk : AW G cc own nL fr lo rt Φ pc' ls (.inl (M 60 1) :: st) M) : AW G cc own nL fr lo rt Φ pc ls (.inr (7, 0, 0, 0) :: st) M := a_get (v := .inl (M 60 1)) (C := RX7) (T := TX7) (N := 12) rfl rfl rfl inX7 6 (by decide) hw rfl hd hp kk
theorem pf_7_6 {index : Nat} {y : Int32} (hn : y = 0 ∨ y = 1) (hw : Cond.fieldLink own index "ColdChainModel" "isReal" "Z" ∈ lw_tbl) (hd : decode cc pc = .ok (.putfield index, 3)) (hp : pc + 3 = pc') (kk : AW G cc own nL fr lo rt Φ pc' ls st (wr M 60 1 y)) : AW G cc own nL fr lo rt Φ pc ls (.inl y :: .inr (7, 0, 0, 0) :: st) M := a_put (r := 60) (i := 1) (C := RX7) (T := TX7) (N := 12) (ty := .boolean) rfl rfl rfl inX7 tyX7 tyX7_ok nmX7 6 (by decide) hw rfl (by decide +kernel) (n_01 hn).1 (n_01 hn).2 (by show 6 < 12; decide) rfl (by simp [ent, wr]) hd hp kk
theorem gf_7_7 {index : Nat} (hw : Cond.fieldLink own index "ColdChainModel" "text" "[I" ∈ lw_tbl) (hd : decode cc pc = .ok (.getfield index, 3)) (hp : pc + 3 = pc') (kk : AW G cc own nL fr lo rt Φ pc' ls (.inr (9, 55, 80, 0) :: st) M) : AW G cc own nL fr lo rt Φ pc ls (.inr (7, 0, 0, 0) :: st) M := a_get (v := .inr (9, 55, 80, 0)) (C := RX7) (T := TX7) (N := 12) rfl rfl rfl inX7 7 (by decide) hw rfl hd hp kk
theorem gf_7_8 {index : Nat} (hw : Cond.fieldLink own index "ColdChainModel" "typed" "I" ∈ lw_tbl) (hd : decode cc pc = .ok (.getfield index, 3)) (hp : pc + 3 = pc') (kk : AW G cc own nL fr lo rt Φ pc' ls (.inl (M 60 2) :: st) M) : AW G cc own nL fr lo rt Φ pc ls (.inr (7, 0, 0, 0) :: st) M := a_get (v := .inl (M 60 2)) (C := RX7) (T := TX7) (N := 12) rfl rfl rfl inX7 8 (by decide) hw rfl hd hp kk
theorem pf_7_8 {index : Nat} {y : Int32} (hw : Cond.fieldLink own index "ColdChainModel" "typed" "I" ∈ lw_tbl) (hd : decode cc pc = .ok (.putfield index, 3)) (hp : pc + 3 = pc') (kk : AW G cc own nL fr lo rt Φ pc' ls st (wr M 60 2 y)) : AW G cc own nL fr lo rt Φ pc ls (.inl y :: .inr (7, 0, 0, 0) :: st) M := a_put (r := 60) (i := 2) (C := RX7) (T := TX7) (N := 12) (ty := .int) rfl rfl rfl inX7 tyX7 tyX7_ok nmX7 8 (by decide) hw rfl (by decide +kernel) rfl rfl (by show 8 < 12; decide) rfl (by simp [ent, wr]) hd hp kk
theorem gf_7_9 {index : Nat} (hw : Cond.fieldLink own index "ColdChainModel" "spot" "I" ∈ lw_tbl) (hd : decode cc pc = .ok (.getfield index, 3)) (hp : pc + 3 = pc') (kk : AW G cc own nL fr lo rt Φ pc' ls (.inl (M 60 3) :: st) M) : AW G cc own nL fr lo rt Φ pc ls (.inr (7, 0, 0, 0) :: st) M := a_get (v := .inl (M 60 3)) (C := RX7) (T := TX7) (N := 12) rfl rfl rfl inX7 9 (by decide) hw rfl hd hp kk
theorem pf_7_9 {index : Nat} {y : Int32} (hw : Cond.fieldLink own index "ColdChainModel" "spot" "I" ∈ lw_tbl) (hd : decode cc pc = .ok (.putfield index, 3)) (hp : pc + 3 = pc') (kk : AW G cc own nL fr lo rt Φ pc' ls st (wr M 60 3 y)) : AW G cc own nL fr lo rt Φ pc ls (.inl y :: .inr (7, 0, 0, 0) :: st) M := a_put (r := 60) (i := 3) (C := RX7) (T := TX7) (N := 12) (ty := .int) rfl rfl rfl inX7 tyX7 tyX7_ok nmX7 9 (by decide) hw rfl (by decide +kernel) rfl rfl (by show 9 < 12; decide) rfl (by simp [ent, wr]) hd hp kk
theorem gf_7_10 {index : Nat} (hw : Cond.fieldLink own index "ColdChainModel" "letter" "I" ∈ lw_tbl) (hd : decode cc pc = .ok (.getfield index, 3)) (hp : pc + 3 = pc') (kk : AW G cc own nL fr lo rt Φ pc' ls (.inl (M 60 4) :: st) M) : AW G cc own nL fr lo rt Φ pc ls (.inr (7, 0, 0, 0) :: st) M := a_get (v := .inl (M 60 4)) (C := RX7) (T := TX7) (N := 12) rfl rfl rfl inX7 10 (by decide) hw rfl hd hp kk
theorem pf_7_10 {index : Nat} {y : Int32} (hw : Cond.fieldLink own index "ColdChainModel" "letter" "I" ∈ lw_tbl) (hd : decode cc pc = .ok (.putfield index, 3)) (hp : pc + 3 = pc') (kk : AW G cc own nL fr lo rt Φ pc' ls st (wr M 60 4 y)) : AW G cc own nL fr lo rt Φ pc ls (.inl y :: .inr (7, 0, 0, 0) :: st) M := a_put (r := 60) (i := 4) (C := RX7) (T := TX7) (N := 12) (ty := .int) rfl rfl rfl inX7 tyX7 tyX7_ok nmX7 10 (by decide) hw rfl (by decide +kernel) rfl rfl (by show 10 < 12; decide) rfl (by simp [ent, wr]) hd hp kk
theorem gf_7_11 {index : Nat} (hw : Cond.fieldLink own index "ColdChainModel" "numbers" "[I" ∈ lw_tbl) (hd : decode cc pc = .ok (.getfield index, 3)) (hp : pc + 3 = pc') (kk : AW G cc own nL fr lo rt Φ pc' ls (.inr (9, 56, 2, 0) :: st) M) : AW G cc own nL fr lo rt Φ pc ls (.inr (7, 0, 0, 0) :: st) M := a_get (v := .inr (9, 56, 2, 0)) (C := RX7) (T := TX7) (N := 12) rfl rfl rfl inX7 11 (by decide) hw rfl hd hp kk
theorem aa_10 {q : Nat} {i : Int32} (hq : q < 9) (hi : vp_in i 12) (hd : decode cc pc = .ok (.aaload, 1)) (hp : pc + 1 = pc') (kk : AW G cc own nL fr lo rt Φ pc' ls (.inr (1, q, i.toNatClampNeg, 0) :: st) M) : AW G cc own nL fr lo rt Φ pc ls (.inl i :: .inr (10, q, 0, 0) :: st) M := a_aald (kd := 10) (t0 := 2) (by simp [okO, hq]) rfl rfl rfl hi rfl hd hp kk
theorem aa_11 {i : Int32} (hi : vp_in i 7) (hd : decode cc pc = .ok (.aaload, 1)) (hp : pc + 1 = pc') (kk : AW G cc own nL fr lo rt Φ pc' ls (.inr (3, 2 + i.toNatClampNeg, 0, 0) :: st) M) : AW G cc own nL fr lo rt Φ pc ls (.inl i :: .inr (11, 0, 0, 0) :: st) M := a_aald (kd := 11) (t0 := 3) rfl rfl rfl rfl hi rfl hd hp kk
theorem aa_12 {q : Nat} {i : Int32} (hq : q < 9) (hi : vp_in i 3) (hd : decode cc pc = .ok (.aaload, 1)) (hp : pc + 1 = pc') (kk : AW G cc own nL fr lo rt Φ pc' ls (.inr (4, q, i.toNatClampNeg, 0) :: st) M) : AW G cc own nL fr lo rt Φ pc ls (.inl i :: .inr (12, q, 0, 0) :: st) M := a_aald (kd := 12) (t0 := 4) (by simp [okO, hq]) rfl rfl rfl hi rfl hd hp kk
theorem aa_13 {q v : Nat} {i : Int32} (hq : q < 9) (hv : v < 3) (hi : vp_in i 3) (hd : decode cc pc = .ok (.aaload, 1)) (hp : pc + 1 = pc') (kk : AW G cc own nL fr lo rt Φ pc' ls (.inr (5, q, v, i.toNatClampNeg) :: st) M) : AW G cc own nL fr lo rt Φ pc ls (.inl i :: .inr (13, q, v, 0) :: st) M := a_aald (kd := 13) (t0 := 5) (by simp [okO, hq, hv]) rfl rfl rfl hi rfl hd hp kk
theorem aa_14 {t : Nat} {i : Int32} (hq : t < 2) (hi : vp_in i 9) (hd : decode cc pc = .ok (.aaload, 1)) (hp : pc + 1 = pc') (kk : AW G cc own nL fr lo rt Φ pc' ls (.inr (9, 30 + 9 * t + i.toNatClampNeg, 601, 0) :: st) M) : AW G cc own nL fr lo rt Φ pc ls (.inl i :: .inr (14, t, 0, 0) :: st) M := a_aald (kd := 14) (t0 := 6) (by simp [okO, hq]) rfl rfl rfl hi rfl hd hp kk
end Objs
end
section
set_option maxRecDepth 100000 in
theorem lwm {w : Cond} (i : Nat) (h : lw_tbl[i]? = some w) : w ∈ lw_tbl := List.mem_of_getElem? h
set_option maxRecDepth 100000 in
theorem fl_X0_11 : Cond.fieldLink RX0 11 "ColdChain$History" "temperatures" "[[I" ∈ lw_tbl := lwm 226 (by decide +kernel)
set_option maxRecDepth 100000 in
theorem fl_X0_16 : Cond.fieldLink RX0 16 "ColdChain$History" "toldOnes" "[[I" ∈ lw_tbl := lwm 227 (by decide +kernel)
set_option maxRecDepth 100000 in
theorem fl_X0_23 : Cond.fieldLink RX0 23 "ColdChain$Van" "zones" "[LColdChain$Zone;" ∈ lw_tbl := lwm 126 (by decide +kernel)
set_option maxRecDepth 100000 in
theorem fl_X0_29 : Cond.fieldLink RX0 29 "ColdChain$Zone" "temperature" "I" ∈ lw_tbl := lwm 86 (by decide +kernel)
set_option maxRecDepth 100000 in
theorem fl_X1_9 : Cond.fieldLink RX1 9 "ColdChain$Pallet" "van" "I" ∈ lw_tbl := lwm 146 (by decide +kernel)
set_option maxRecDepth 100000 in
theorem fl_X1_15 : Cond.fieldLink RX1 15 "ColdChain$Pallet" "zone" "I" ∈ lw_tbl := lwm 149 (by decide +kernel)
set_option maxRecDepth 100000 in
theorem fl_X1_18 : Cond.fieldLink RX1 18 "ColdChain$Pallet" "limit" "I" ∈ lw_tbl := lwm 151 (by decide +kernel)
set_option maxRecDepth 100000 in
theorem fl_X1_21 : Cond.fieldLink RX1 21 "ColdChain$Pallet" "allowance" "I" ∈ lw_tbl := lwm 152 (by decide +kernel)
set_option maxRecDepth 100000 in
theorem fl_X1_24 : Cond.fieldLink RX1 24 "ColdChain$Pallet" "value" "I" ∈ lw_tbl := lwm 153 (by decide +kernel)
set_option maxRecDepth 100000 in
theorem fl_X1_27 : Cond.fieldLink RX1 27 "ColdChain$Pallet" "state" "I" ∈ lw_tbl := lwm 155 (by decide +kernel)
set_option maxRecDepth 100000 in
theorem fl_X1_30 : Cond.fieldLink RX1 30 "ColdChain$Pallet" "openMinutes" "I" ∈ lw_tbl := lwm 158 (by decide +kernel)
set_option maxRecDepth 100000 in
theorem fl_X1_33 : Cond.fieldLink RX1 33 "ColdChain$Pallet" "closedMinutes" "I" ∈ lw_tbl := lwm 159 (by decide +kernel)
set_option maxRecDepth 100000 in
theorem fl_X1_36 : Cond.fieldLink RX1 36 "ColdChain$Pallet" "toldMinutes" "I" ∈ lw_tbl := lwm 160 (by decide +kernel)
set_option maxRecDepth 100000 in
theorem fl_X1_39 : Cond.fieldLink RX1 39 "ColdChain$Pallet" "part" "I" ∈ lw_tbl := lwm 161 (by decide +kernel)
set_option maxRecDepth 100000 in
theorem fl_X1_42 : Cond.fieldLink RX1 42 "ColdChain$Van" "zones" "[LColdChain$Zone;" ∈ lw_tbl := lwm 127 (by decide +kernel)
set_option maxRecDepth 100000 in
theorem fl_X1_48 : Cond.fieldLink RX1 48 "ColdChain$Zone" "temperature" "I" ∈ lw_tbl := lwm 88 (by decide +kernel)
set_option maxRecDepth 100000 in
theorem fl_X1_53 : Cond.fieldLink RX1 53 "ColdChain$Van" "open" "Z" ∈ lw_tbl := lwm 120 (by decide +kernel)
set_option maxRecDepth 100000 in
theorem fl_X2_9 : Cond.fieldLink RX2 9 "ColdChain$Script" "text" "[C" ∈ lw_tbl := lwm 240 (by decide +kernel)
set_option maxRecDepth 100000 in
theorem fl_X2_15 : Cond.fieldLink RX2 15 "ColdChain$Script" "letters" "[I" ∈ lw_tbl := lwm 244 (by decide +kernel)
set_option maxRecDepth 100000 in
theorem fl_X2_19 : Cond.fieldLink RX2 19 "ColdChain$Script" "firsts" "[I" ∈ lw_tbl := lwm 246 (by decide +kernel)
set_option maxRecDepth 100000 in
theorem fl_X2_22 : Cond.fieldLink RX2 22 "ColdChain$Script" "seconds" "[I" ∈ lw_tbl := lwm 248 (by decide +kernel)
set_option maxRecDepth 100000 in
theorem fl_X2_30 : Cond.fieldLink RX2 30 "ColdChain$Script" "length" "I" ∈ lw_tbl := lwm 241 (by decide +kernel)
set_option maxRecDepth 100000 in
theorem fl_X2_35 : Cond.fieldLink RX2 35 "ColdChain$Script" "at" "I" ∈ lw_tbl := lwm 243 (by decide +kernel)
set_option maxRecDepth 100000 in
theorem fl_X2_38 : Cond.fieldLink RX2 38 "ColdChain$Script" "commandCount" "I" ∈ lw_tbl := lwm 250 (by decide +kernel)
set_option maxRecDepth 100000 in
theorem fl_X3_9 : Cond.fieldLink RX3 9 "ColdChain$State" "outside" "I" ∈ lw_tbl := lwm 186 (by decide +kernel)
set_option maxRecDepth 100000 in
theorem fl_X3_15 : Cond.fieldLink RX3 15 "ColdChain$State" "difference" "I" ∈ lw_tbl := lwm 188 (by decide +kernel)
set_option maxRecDepth 100000 in
theorem fl_X3_18 : Cond.fieldLink RX3 18 "ColdChain$State" "patience" "I" ∈ lw_tbl := lwm 190 (by decide +kernel)
set_option maxRecDepth 100000 in
theorem fl_X3_23 : Cond.fieldLink RX3 23 "ColdChain$State" "vans" "[LColdChain$Van;" ∈ lw_tbl := lwm 196 (by decide +kernel)
set_option maxRecDepth 100000 in
theorem fl_X3_29 : Cond.fieldLink RX3 29 "ColdChain$State" "pallets" "[LColdChain$Pallet;" ∈ lw_tbl := lwm 198 (by decide +kernel)
set_option maxRecDepth 100000 in
theorem fl_X3_35 : Cond.fieldLink RX3 35 "ColdChain$State" "time" "I" ∈ lw_tbl := lwm 184 (by decide +kernel)
set_option maxRecDepth 100000 in
theorem fl_X3_38 : Cond.fieldLink RX3 38 "ColdChain$State" "vanCount" "I" ∈ lw_tbl := lwm 192 (by decide +kernel)
set_option maxRecDepth 100000 in
theorem fl_X3_41 : Cond.fieldLink RX3 41 "ColdChain$State" "palletCount" "I" ∈ lw_tbl := lwm 194 (by decide +kernel)
set_option maxRecDepth 100000 in
theorem fl_X3_59 : Cond.fieldLink RX3 59 "ColdChain$Van" "zones" "[LColdChain$Zone;" ∈ lw_tbl := lwm 128 (by decide +kernel)
set_option maxRecDepth 100000 in
theorem fl_X3_63 : Cond.fieldLink RX3 63 "ColdChain$Zone" "found" "Z" ∈ lw_tbl := lwm 96 (by decide +kernel)
set_option maxRecDepth 100000 in
theorem fl_X3_72 : Cond.fieldLink RX3 72 "ColdChain$Pallet" "zone" "I" ∈ lw_tbl := lwm 150 (by decide +kernel)
set_option maxRecDepth 100000 in
theorem fl_X3_89 : Cond.fieldLink RX3 89 "ColdChain$Van" "setPoint" "I" ∈ lw_tbl := lwm 114 (by decide +kernel)
set_option maxRecDepth 100000 in
theorem fl_X3_92 : Cond.fieldLink RX3 92 "ColdChain$Van" "cooling" "I" ∈ lw_tbl := lwm 117 (by decide +kernel)
set_option maxRecDepth 100000 in
theorem fl_X3_101 : Cond.fieldLink RX3 101 "ColdChain$Zone" "mode" "I" ∈ lw_tbl := lwm 91 (by decide +kernel)
set_option maxRecDepth 100000 in
theorem fl_X3_104 : Cond.fieldLink RX3 104 "ColdChain$Zone" "value" "I" ∈ lw_tbl := lwm 94 (by decide +kernel)
set_option maxRecDepth 100000 in
theorem fl_X3_116 : Cond.fieldLink RX3 116 "ColdChain$Van" "open" "Z" ∈ lw_tbl := lwm 121 (by decide +kernel)
set_option maxRecDepth 100000 in
theorem fl_X3_161 : Cond.fieldLink RX3 161 "ColdChain$Pallet" "state" "I" ∈ lw_tbl := lwm 156 (by decide +kernel)
set_option maxRecDepth 100000 in
theorem fl_X3_164 : Cond.fieldLink RX3 164 "ColdChain$Pallet" "van" "I" ∈ lw_tbl := lwm 147 (by decide +kernel)
set_option maxRecDepth 100000 in
theorem fl_X3_176 : Cond.fieldLink RX3 176 "ColdChain$Pallet" "value" "I" ∈ lw_tbl := lwm 154 (by decide +kernel)
set_option maxRecDepth 100000 in
theorem fl_X3_177 : Cond.fieldLink RX3 177 "ColdChain$Pallet" "part" "I" ∈ lw_tbl := lwm 162 (by decide +kernel)
set_option maxRecDepth 100000 in
theorem fl_X4_11 : Cond.fieldLink RX4 11 "ColdChain$Van" "zones" "[LColdChain$Zone;" ∈ lw_tbl := lwm 125 (by decide +kernel)
set_option maxRecDepth 100000 in
theorem fl_X4_18 : Cond.fieldLink RX4 18 "ColdChain$Van" "setPoint" "I" ∈ lw_tbl := lwm 113 (by decide +kernel)
set_option maxRecDepth 100000 in
theorem fl_X4_22 : Cond.fieldLink RX4 22 "ColdChain$Van" "cooling" "I" ∈ lw_tbl := lwm 116 (by decide +kernel)
set_option maxRecDepth 100000 in
theorem fl_X4_25 : Cond.fieldLink RX4 25 "ColdChain$Van" "open" "Z" ∈ lw_tbl := lwm 119 (by decide +kernel)
set_option maxRecDepth 100000 in
theorem fl_X4_29 : Cond.fieldLink RX4 29 "ColdChain$Van" "addedAt" "I" ∈ lw_tbl := lwm 123 (by decide +kernel)
set_option maxRecDepth 100000 in
theorem fl_X4_39 : Cond.fieldLink RX4 39 "ColdChain$Zone" "temperature" "I" ∈ lw_tbl := lwm 87 (by decide +kernel)
set_option maxRecDepth 100000 in
theorem fl_X4_54 : Cond.fieldLink RX4 54 "ColdChain$Zone" "oddMinutes" "I" ∈ lw_tbl := lwm 100 (by decide +kernel)
set_option maxRecDepth 100000 in
theorem fl_X4_57 : Cond.fieldLink RX4 57 "ColdChain$Zone" "found" "Z" ∈ lw_tbl := lwm 97 (by decide +kernel)
set_option maxRecDepth 100000 in
theorem fl_X5_9 : Cond.fieldLink RX5 9 "ColdChain$Zone" "temperature" "I" ∈ lw_tbl := lwm 85 (by decide +kernel)
set_option maxRecDepth 100000 in
theorem fl_X5_15 : Cond.fieldLink RX5 15 "ColdChain$Zone" "mode" "I" ∈ lw_tbl := lwm 90 (by decide +kernel)
set_option maxRecDepth 100000 in
theorem fl_X5_18 : Cond.fieldLink RX5 18 "ColdChain$Zone" "value" "I" ∈ lw_tbl := lwm 93 (by decide +kernel)
set_option maxRecDepth 100000 in
theorem fl_X5_21 : Cond.fieldLink RX5 21 "ColdChain$Zone" "found" "Z" ∈ lw_tbl := lwm 95 (by decide +kernel)
set_option maxRecDepth 100000 in
theorem fl_X5_25 : Cond.fieldLink RX5 25 "ColdChain$Zone" "oddMinutes" "I" ∈ lw_tbl := lwm 99 (by decide +kernel)
set_option maxRecDepth 100000 in
theorem fl_X6_10 : Cond.fieldLink RX6 10 "ColdChain" "now" "LColdChain$State;" ∈ lw_tbl := lwm 268 (by decide +kernel)
set_option maxRecDepth 100000 in
theorem fl_X6_16 : Cond.fieldLink RX6 16 "ColdChain" "trial" "LColdChain$State;" ∈ lw_tbl := lwm 269 (by decide +kernel)
set_option maxRecDepth 100000 in
theorem fl_X6_19 : Cond.fieldLink RX6 19 "ColdChain" "saved" "[LColdChain$State;" ∈ lw_tbl := lwm 270 (by decide +kernel)
set_option maxRecDepth 100000 in
theorem fl_X6_26 : Cond.fieldLink RX6 26 "ColdChain" "history" "LColdChain$History;" ∈ lw_tbl := lwm 273 (by decide +kernel)
set_option maxRecDepth 100000 in
theorem fl_X6_33 : Cond.fieldLink RX6 33 "ColdChain" "script" "LColdChain$Script;" ∈ lw_tbl := lwm 274 (by decide +kernel)
set_option maxRecDepth 100000 in
theorem fl_X6_82 : Cond.fieldLink RX6 82 "ColdChain$Script" "length" "I" ∈ lw_tbl := lwm 242 (by decide +kernel)
set_option maxRecDepth 100000 in
theorem fl_X6_91 : Cond.fieldLink RX6 91 "ColdChain$Script" "commandCount" "I" ∈ lw_tbl := lwm 251 (by decide +kernel)
set_option maxRecDepth 100000 in
theorem fl_X6_101 : Cond.fieldLink RX6 101 "ColdChain" "free" "I" ∈ lw_tbl := lwm 271 (by decide +kernel)
set_option maxRecDepth 100000 in
theorem fl_X6_109 : Cond.fieldLink RX6 109 "ColdChain$State" "vanCount" "I" ∈ lw_tbl := lwm 193 (by decide +kernel)
set_option maxRecDepth 100000 in
theorem fl_X6_112 : Cond.fieldLink RX6 112 "ColdChain$State" "palletCount" "I" ∈ lw_tbl := lwm 195 (by decide +kernel)
set_option maxRecDepth 100000 in
theorem fl_X6_115 : Cond.fieldLink RX6 115 "ColdChain$State" "time" "I" ∈ lw_tbl := lwm 185 (by decide +kernel)
set_option maxRecDepth 100000 in
theorem fl_X6_118 : Cond.fieldLink RX6 118 "ColdChain$State" "outside" "I" ∈ lw_tbl := lwm 187 (by decide +kernel)
set_option maxRecDepth 100000 in
theorem fl_X6_121 : Cond.fieldLink RX6 121 "ColdChain$State" "difference" "I" ∈ lw_tbl := lwm 189 (by decide +kernel)
set_option maxRecDepth 100000 in
theorem fl_X6_124 : Cond.fieldLink RX6 124 "ColdChain$State" "patience" "I" ∈ lw_tbl := lwm 191 (by decide +kernel)
set_option maxRecDepth 100000 in
theorem fl_X6_127 : Cond.fieldLink RX6 127 "ColdChain" "savedCount" "I" ∈ lw_tbl := lwm 272 (by decide +kernel)
set_option maxRecDepth 100000 in
theorem fl_X6_137 : Cond.fieldLink RX6 137 "ColdChain$State" "vans" "[LColdChain$Van;" ∈ lw_tbl := lwm 197 (by decide +kernel)
set_option maxRecDepth 100000 in
theorem fl_X6_141 : Cond.fieldLink RX6 141 "ColdChain$Van" "setPoint" "I" ∈ lw_tbl := lwm 115 (by decide +kernel)
set_option maxRecDepth 100000 in
theorem fl_X6_146 : Cond.fieldLink RX6 146 "ColdChain$Van" "cooling" "I" ∈ lw_tbl := lwm 118 (by decide +kernel)
set_option maxRecDepth 100000 in
theorem fl_X6_149 : Cond.fieldLink RX6 149 "ColdChain$Van" "open" "Z" ∈ lw_tbl := lwm 122 (by decide +kernel)
set_option maxRecDepth 100000 in
theorem fl_X6_160 : Cond.fieldLink RX6 160 "ColdChain$Van" "zones" "[LColdChain$Zone;" ∈ lw_tbl := lwm 129 (by decide +kernel)
set_option maxRecDepth 100000 in
theorem fl_X6_164 : Cond.fieldLink RX6 164 "ColdChain$Zone" "temperature" "I" ∈ lw_tbl := lwm 89 (by decide +kernel)
set_option maxRecDepth 100000 in
theorem fl_X6_175 : Cond.fieldLink RX6 175 "ColdChain$Zone" "mode" "I" ∈ lw_tbl := lwm 92 (by decide +kernel)
set_option maxRecDepth 100000 in
theorem fl_X6_178 : Cond.fieldLink RX6 178 "ColdChain$Zone" "found" "Z" ∈ lw_tbl := lwm 98 (by decide +kernel)
set_option maxRecDepth 100000 in
theorem fl_X6_181 : Cond.fieldLink RX6 181 "ColdChain$Zone" "oddMinutes" "I" ∈ lw_tbl := lwm 101 (by decide +kernel)
set_option maxRecDepth 100000 in
theorem fl_X6_187 : Cond.fieldLink RX6 187 "ColdChain$State" "pallets" "[LColdChain$Pallet;" ∈ lw_tbl := lwm 199 (by decide +kernel)
set_option maxRecDepth 100000 in
theorem fl_X6_206 : Cond.fieldLink RX6 206 "ColdChain$Van" "addedAt" "I" ∈ lw_tbl := lwm 124 (by decide +kernel)
set_option maxRecDepth 100000 in
theorem fl_X6_222 : Cond.fieldLink RX6 222 "ColdChain$Pallet" "state" "I" ∈ lw_tbl := lwm 157 (by decide +kernel)
set_option maxRecDepth 100000 in
theorem fl_X6_230 : Cond.fieldLink RX6 230 "ColdChain$Pallet" "van" "I" ∈ lw_tbl := lwm 148 (by decide +kernel)
set_option maxRecDepth 100000 in
theorem fl_X6_239 : Cond.fieldLink RX6 239 "ColdChain$Script" "firsts" "[I" ∈ lw_tbl := lwm 247 (by decide +kernel)
set_option maxRecDepth 100000 in
theorem fl_X6_243 : Cond.fieldLink RX6 243 "ColdChain$Script" "letters" "[I" ∈ lw_tbl := lwm 245 (by decide +kernel)
set_option maxRecDepth 100000 in
theorem fl_X6_246 : Cond.fieldLink RX6 246 "ColdChain$Script" "seconds" "[I" ∈ lw_tbl := lwm 249 (by decide +kernel)
set_option maxRecDepth 100000 in
theorem fl_X7_7 : Cond.fieldLink RX7 7 "ColdChainModel" "s" "[I" ∈ lw_tbl := lwm 678 (by decide +kernel)
set_option maxRecDepth 100000 in
theorem fl_X7_13 : Cond.fieldLink RX7 13 "ColdChainModel" "past" "[I" ∈ lw_tbl := lwm 679 (by decide +kernel)
set_option maxRecDepth 100000 in
theorem fl_X7_16 : Cond.fieldLink RX7 16 "ColdChainModel" "aside" "[I" ∈ lw_tbl := lwm 680 (by decide +kernel)
set_option maxRecDepth 100000 in
theorem fl_X7_19 : Cond.fieldLink RX7 19 "ColdChainModel" "kept" "[I" ∈ lw_tbl := lwm 681 (by decide +kernel)
set_option maxRecDepth 100000 in
theorem fl_X7_22 : Cond.fieldLink RX7 22 "ColdChainModel" "log" "[I" ∈ lw_tbl := lwm 683 (by decide +kernel)
set_option maxRecDepth 100000 in
theorem fl_X7_25 : Cond.fieldLink RX7 25 "ColdChainModel" "isReal" "Z" ∈ lw_tbl := lwm 684 (by decide +kernel)
set_option maxRecDepth 100000 in
theorem fl_X7_29 : Cond.fieldLink RX7 29 "ColdChainModel" "text" "[I" ∈ lw_tbl := lwm 685 (by decide +kernel)
set_option maxRecDepth 100000 in
theorem fl_X7_32 : Cond.fieldLink RX7 32 "ColdChainModel" "numbers" "[I" ∈ lw_tbl := lwm 689 (by decide +kernel)
set_option maxRecDepth 100000 in
theorem fl_X7_39 : Cond.fieldLink RX7 39 "ColdChainModel" "pasts" "I" ∈ lw_tbl := lwm 682 (by decide +kernel)
set_option maxRecDepth 100000 in
theorem fl_X7_144 : Cond.fieldLink RX7 144 "ColdChainModel" "typed" "I" ∈ lw_tbl := lwm 686 (by decide +kernel)
set_option maxRecDepth 100000 in
theorem fl_X7_147 : Cond.fieldLink RX7 147 "ColdChainModel" "spot" "I" ∈ lw_tbl := lwm 687 (by decide +kernel)
set_option maxRecDepth 100000 in
theorem fl_X7_156 : Cond.fieldLink RX7 156 "ColdChainModel" "letter" "I" ∈ lw_tbl := lwm 688 (by decide +kernel)
set_option maxRecDepth 100000 in
theorem cn_J6_265 : Cond.constant RJ6 265 (1431655765 : Int32) ∈ lw_tbl := lwm 432 (by decide +kernel)
set_option maxRecDepth 100000 in
theorem cn_J6_266 : Cond.constant RJ6 266 (858993459 : Int32) ∈ lw_tbl := lwm 433 (by decide +kernel)
set_option maxRecDepth 100000 in
theorem cn_J6_267 : Cond.constant RJ6 267 (252645135 : Int32) ∈ lw_tbl := lwm 434 (by decide +kernel)
set_option maxRecDepth 100000 in
theorem cn_X1_72 : Cond.constant RX1 72 (-100001 : Int32) ∈ lw_tbl := lwm 624 (by decide +kernel)
set_option maxRecDepth 100000 in
theorem cn_X2_29 : Cond.constant RX2 29 (-100001 : Int32) ∈ lw_tbl := lwm 544 (by decide +kernel)
set_option maxRecDepth 100000 in
theorem cn_X2_34 : Cond.constant RX2 34 (-100003 : Int32) ∈ lw_tbl := lwm 545 (by decide +kernel)
set_option maxRecDepth 100000 in
theorem cn_X3_83 : Cond.constant RX3 83 (-100001 : Int32) ∈ lw_tbl := lwm 324 (by decide +kernel)
set_option maxRecDepth 100000 in
theorem cn_X3_84 : Cond.constant RX3 84 (-100003 : Int32) ∈ lw_tbl := lwm 325 (by decide +kernel)
set_option maxRecDepth 100000 in
theorem cn_X3_119 : Cond.constant RX3 119 (-100002 : Int32) ∈ lw_tbl := lwm 404 (by decide +kernel)
set_option maxRecDepth 100000 in
theorem cn_X6_90 : Cond.constant RX6 90 (-200000 : Int32) ∈ lw_tbl := lwm 580 (by decide +kernel)
set_option maxRecDepth 100000 in
theorem cn_X6_108 : Cond.constant RX6 108 (-300000 : Int32) ∈ lw_tbl := lwm 585 (by decide +kernel)
set_option maxRecDepth 100000 in
theorem cn_X6_133 : Cond.constant RX6 133 (-100001 : Int32) ∈ lw_tbl := lwm 341 (by decide +kernel)
set_option maxRecDepth 100000 in
theorem cn_X6_209 : Cond.constant RX6 209 (-100009 : Int32) ∈ lw_tbl := lwm 642 (by decide +kernel)
set_option maxRecDepth 100000 in
theorem cn_X6_225 : Cond.constant RX6 225 (-100002 : Int32) ∈ lw_tbl := lwm 653 (by decide +kernel)
set_option maxRecDepth 100000 in
theorem cn_X7_92 : Cond.constant RX7 92 (-100001 : Int32) ∈ lw_tbl := lwm 725 (by decide +kernel)
set_option maxRecDepth 100000 in
theorem cn_X7_93 : Cond.constant RX7 93 (-100002 : Int32) ∈ lw_tbl := lwm 790 (by decide +kernel)
set_option maxRecDepth 100000 in
theorem cn_X7_100 : Cond.constant RX7 100 (-100003 : Int32) ∈ lw_tbl := lwm 726 (by decide +kernel)
set_option maxRecDepth 100000 in
theorem cn_X7_172 : Cond.constant RX7 172 (-200000 : Int32) ∈ lw_tbl := lwm 908 (by decide +kernel)
set_option maxRecDepth 100000 in
theorem cn_X7_176 : Cond.constant RX7 176 (-300000 : Int32) ∈ lw_tbl := lwm 913 (by decide +kernel)
set_option maxRecDepth 100000 in
theorem cn_X7_183 : Cond.constant RX7 183 (-100009 : Int32) ∈ lw_tbl := lwm 950 (by decide +kernel)
set_option maxRecDepth 100000 in
theorem ms_X6_isVanSetting : Cond.static yX6_isVanSetting ∈ lw_tbl := lwm 319 (by decide +kernel)
set_option maxRecDepth 100000 in
theorem ms_X6_isWithin : Cond.static yX6_isWithin ∈ lw_tbl := lwm 322 (by decide +kernel)
set_option maxRecDepth 100000 in
theorem ms_X6_isError : Cond.static yX6_isError ∈ lw_tbl := lwm 339 (by decide +kernel)
set_option maxRecDepth 100000 in
theorem ms_J9_min_7cf53 : Cond.static yJ9_min_7cf53 ∈ lw_tbl := lwm 343 (by decide +kernel)
set_option maxRecDepth 100000 in
theorem ms_X6_isProbeSetting : Cond.static yX6_isProbeSetting ∈ lw_tbl := lwm 379 (by decide +kernel)
set_option maxRecDepth 100000 in
theorem ms_X6_isLimit : Cond.static yX6_isLimit ∈ lw_tbl := lwm 399 (by decide +kernel)
set_option maxRecDepth 100000 in
theorem ms_X6_isPrice : Cond.static yX6_isPrice ∈ lw_tbl := lwm 402 (by decide +kernel)
set_option maxRecDepth 100000 in
theorem ms_J6_bitCount_0f7a4 : Cond.static yJ6_bitCount_0f7a4 ∈ lw_tbl := lwm 430 (by decide +kernel)
set_option maxRecDepth 100000 in
theorem ms_J9_max_7cf53 : Cond.static yJ9_max_7cf53 ∈ lw_tbl := lwm 458 (by decide +kernel)
set_option maxRecDepth 100000 in
theorem ms_J9_abs_0f7a4 : Cond.static yJ9_abs_0f7a4 ∈ lw_tbl := lwm 477 (by decide +kernel)
set_option maxRecDepth 100000 in
theorem ms_J9_floorDiv_7cf53 : Cond.static yJ9_floorDiv_7cf53 ∈ lw_tbl := lwm 488 (by decide +kernel)
set_option maxRecDepth 100000 in
theorem ms_X3_isIn : Cond.static yX3_isIn ∈ lw_tbl := lwm 524 (by decide +kernel)
set_option maxRecDepth 100000 in
theorem ms_X2_isLetter : Cond.static yX2_isLetter ∈ lw_tbl := lwm 567 (by decide +kernel)
set_option maxRecDepth 100000 in
theorem ms_X2_isDigit : Cond.static yX2_isDigit ∈ lw_tbl := lwm 574 (by decide +kernel)
set_option maxRecDepth 100000 in
theorem ms_X7_isCold : Cond.static yX7_isCold ∈ lw_tbl := lwm 720 (by decide +kernel)
set_option maxRecDepth 100000 in
theorem ms_X7_in : Cond.static yX7_in ∈ lw_tbl := lwm 723 (by decide +kernel)
set_option maxRecDepth 100000 in
theorem ms_X7_copies : Cond.static yX7_copies ∈ lw_tbl := lwm 732 (by decide +kernel)
set_option maxRecDepth 100000 in
theorem ms_X7_zoneSpot : Cond.static yX7_zoneSpot ∈ lw_tbl := lwm 735 (by decide +kernel)
set_option maxRecDepth 100000 in
theorem ms_X7_isNumber : Cond.static yX7_isNumber ∈ lw_tbl := lwm 746 (by decide +kernel)
set_option maxRecDepth 100000 in
theorem ms_X7_isZone : Cond.static yX7_isZone ∈ lw_tbl := lwm 765 (by decide +kernel)
set_option maxRecDepth 100000 in
theorem ms_X7_isMode : Cond.static yX7_isMode ∈ lw_tbl := lwm 768 (by decide +kernel)
set_option maxRecDepth 100000 in
theorem ms_X7_palletSpot : Cond.static yX7_palletSpot ∈ lw_tbl := lwm 800 (by decide +kernel)
set_option maxRecDepth 100000 in
theorem ms_X7_bits : Cond.static yX7_bits ∈ lw_tbl := lwm 815 (by decide +kernel)
set_option maxRecDepth 100000 in
theorem ms_X7_apart : Cond.static yX7_apart ∈ lw_tbl := lwm 846 (by decide +kernel)
set_option maxRecDepth 100000 in
theorem mi_X6_init : Cond.instanceMethod yX6_init ∈ lw_tbl := lwm 58 (by decide +kernel)
set_option maxRecDepth 100000 in
theorem mi_X3_init : Cond.instanceMethod yX3_init ∈ lw_tbl := lwm 66 (by decide +kernel)
set_option maxRecDepth 100000 in
theorem mi_X4_init : Cond.instanceMethod yX4_init ∈ lw_tbl := lwm 75 (by decide +kernel)
set_option maxRecDepth 100000 in
theorem mi_X5_init : Cond.instanceMethod yX5_init ∈ lw_tbl := lwm 82 (by decide +kernel)
set_option maxRecDepth 100000 in
theorem mi_X1_init : Cond.instanceMethod yX1_init ∈ lw_tbl := lwm 143 (by decide +kernel)
set_option maxRecDepth 100000 in
theorem mi_X0_init : Cond.instanceMethod yX0_init ∈ lw_tbl := lwm 221 (by decide +kernel)
set_option maxRecDepth 100000 in
theorem mi_X2_init : Cond.instanceMethod yX2_init ∈ lw_tbl := lwm 237 (by decide +kernel)
set_option maxRecDepth 100000 in
theorem mi_X6_addVan : Cond.instanceMethod yX6_addVan ∈ lw_tbl := lwm 291 (by decide +kernel)
set_option maxRecDepth 100000 in
theorem mi_X6_noteState : Cond.instanceMethod yX6_noteState ∈ lw_tbl := lwm 296 (by decide +kernel)
set_option maxRecDepth 100000 in
theorem mi_X3_copyFrom : Cond.instanceMethod yX3_copyFrom ∈ lw_tbl := lwm 299 (by decide +kernel)
set_option maxRecDepth 100000 in
theorem mi_X4_copyFrom : Cond.instanceMethod yX4_copyFrom ∈ lw_tbl := lwm 303 (by decide +kernel)
set_option maxRecDepth 100000 in
theorem mi_X5_copyFrom : Cond.instanceMethod yX5_copyFrom ∈ lw_tbl := lwm 307 (by decide +kernel)
set_option maxRecDepth 100000 in
theorem mi_X1_copyFrom : Cond.instanceMethod yX1_copyFrom ∈ lw_tbl := lwm 311 (by decide +kernel)
set_option maxRecDepth 100000 in
theorem mi_X3_putVan : Cond.instanceMethod yX3_putVan ∈ lw_tbl := lwm 315 (by decide +kernel)
set_option maxRecDepth 100000 in
theorem mi_X4_start : Cond.instanceMethod yX4_start ∈ lw_tbl := lwm 327 (by decide +kernel)
set_option maxRecDepth 100000 in
theorem mi_X5_mend : Cond.instanceMethod yX5_mend ∈ lw_tbl := lwm 331 (by decide +kernel)
set_option maxRecDepth 100000 in
theorem mi_X6_kept : Cond.instanceMethod yX6_kept ∈ lw_tbl := lwm 336 (by decide +kernel)
set_option maxRecDepth 100000 in
theorem mi_X6_setNumber : Cond.instanceMethod yX6_setNumber ∈ lw_tbl := lwm 346 (by decide +kernel)
set_option maxRecDepth 100000 in
theorem mi_X3_changeNumber : Cond.instanceMethod yX3_changeNumber ∈ lw_tbl := lwm 350 (by decide +kernel)
set_option maxRecDepth 100000 in
theorem mi_X6_setVan : Cond.instanceMethod yX6_setVan ∈ lw_tbl := lwm 355 (by decide +kernel)
set_option maxRecDepth 100000 in
theorem mi_X3_changeVan : Cond.instanceMethod yX3_changeVan ∈ lw_tbl := lwm 359 (by decide +kernel)
set_option maxRecDepth 100000 in
theorem mi_X3_hasVan : Cond.instanceMethod yX3_hasVan ∈ lw_tbl := lwm 363 (by decide +kernel)
set_option maxRecDepth 100000 in
theorem mi_X6_setProbe : Cond.instanceMethod yX6_setProbe ∈ lw_tbl := lwm 367 (by decide +kernel)
set_option maxRecDepth 100000 in
theorem mi_X3_changeProbe : Cond.instanceMethod yX3_changeProbe ∈ lw_tbl := lwm 371 (by decide +kernel)
set_option maxRecDepth 100000 in
theorem mi_X3_hasZone : Cond.instanceMethod yX3_hasZone ∈ lw_tbl := lwm 375 (by decide +kernel)
set_option maxRecDepth 100000 in
theorem mi_X6_repair : Cond.instanceMethod yX6_repair ∈ lw_tbl := lwm 382 (by decide +kernel)
set_option maxRecDepth 100000 in
theorem mi_X3_mendProbe : Cond.instanceMethod yX3_mendProbe ∈ lw_tbl := lwm 386 (by decide +kernel)
set_option maxRecDepth 100000 in
theorem mi_X6_loadPallet : Cond.instanceMethod yX6_loadPallet ∈ lw_tbl := lwm 391 (by decide +kernel)
set_option maxRecDepth 100000 in
theorem mi_X3_putPallet : Cond.instanceMethod yX3_putPallet ∈ lw_tbl := lwm 395 (by decide +kernel)
set_option maxRecDepth 100000 in
theorem mi_X3_palletsInZone : Cond.instanceMethod yX3_palletsInZone ∈ lw_tbl := lwm 407 (by decide +kernel)
set_option maxRecDepth 100000 in
theorem mi_X1_isIn : Cond.instanceMethod yX1_isIn ∈ lw_tbl := lwm 410 (by decide +kernel)
set_option maxRecDepth 100000 in
theorem mi_X1_start : Cond.instanceMethod yX1_start ∈ lw_tbl := lwm 414 (by decide +kernel)
set_option maxRecDepth 100000 in
theorem mi_X6_door : Cond.instanceMethod yX6_door ∈ lw_tbl := lwm 418 (by decide +kernel)
set_option maxRecDepth 100000 in
theorem mi_X3_turnDoor : Cond.instanceMethod yX3_turnDoor ∈ lw_tbl := lwm 422 (by decide +kernel)
set_option maxRecDepth 100000 in
theorem mi_X3_palletsIn : Cond.instanceMethod yX3_palletsIn ∈ lw_tbl := lwm 426 (by decide +kernel)
set_option maxRecDepth 100000 in
theorem mi_X6_pass : Cond.instanceMethod yX6_pass ∈ lw_tbl := lwm 436 (by decide +kernel)
set_option maxRecDepth 100000 in
theorem mi_X3_letPass : Cond.instanceMethod yX3_letPass ∈ lw_tbl := lwm 440 (by decide +kernel)
set_option maxRecDepth 100000 in
theorem mi_X3_minuteInVan : Cond.instanceMethod yX3_minuteInVan ∈ lw_tbl := lwm 444 (by decide +kernel)
set_option maxRecDepth 100000 in
theorem mi_X4_changeTemperatures : Cond.instanceMethod yX4_changeTemperatures ∈ lw_tbl := lwm 448 (by decide +kernel)
set_option maxRecDepth 100000 in
theorem mi_X5_coolTo : Cond.instanceMethod yX5_coolTo ∈ lw_tbl := lwm 454 (by decide +kernel)
set_option maxRecDepth 100000 in
theorem mi_X4_mixAir : Cond.instanceMethod yX4_mixAir ∈ lw_tbl := lwm 461 (by decide +kernel)
set_option maxRecDepth 100000 in
theorem mi_X4_findProbes : Cond.instanceMethod yX4_findProbes ∈ lw_tbl := lwm 465 (by decide +kernel)
set_option maxRecDepth 100000 in
theorem mi_X4_isOdd : Cond.instanceMethod yX4_isOdd ∈ lw_tbl := lwm 470 (by decide +kernel)
set_option maxRecDepth 100000 in
theorem mi_X5_reading : Cond.instanceMethod yX5_reading ∈ lw_tbl := lwm 473 (by decide +kernel)
set_option maxRecDepth 100000 in
theorem mi_X1_addMinute : Cond.instanceMethod yX1_addMinute ∈ lw_tbl := lwm 480 (by decide +kernel)
set_option maxRecDepth 100000 in
theorem mi_X4_toldIn : Cond.instanceMethod yX4_toldIn ∈ lw_tbl := lwm 484 (by decide +kernel)
set_option maxRecDepth 100000 in
theorem mi_X0_write : Cond.instanceMethod yX0_write ∈ lw_tbl := lwm 491 (by decide +kernel)
set_option maxRecDepth 100000 in
theorem mi_X0_row : Cond.instanceMethod yX0_row ∈ lw_tbl := lwm 495 (by decide +kernel)
set_option maxRecDepth 100000 in
theorem mi_X6_deliver : Cond.instanceMethod yX6_deliver ∈ lw_tbl := lwm 500 (by decide +kernel)
set_option maxRecDepth 100000 in
theorem mi_X3_handOver : Cond.instanceMethod yX3_handOver ∈ lw_tbl := lwm 504 (by decide +kernel)
set_option maxRecDepth 100000 in
theorem mi_X3_hasPallet : Cond.instanceMethod yX3_hasPallet ∈ lw_tbl := lwm 508 (by decide +kernel)
set_option maxRecDepth 100000 in
theorem mi_X1_isOverdue : Cond.instanceMethod yX1_isOverdue ∈ lw_tbl := lwm 512 (by decide +kernel)
set_option maxRecDepth 100000 in
theorem mi_X6_detour : Cond.instanceMethod yX6_detour ∈ lw_tbl := lwm 516 (by decide +kernel)
set_option maxRecDepth 100000 in
theorem mi_X3_bringBack : Cond.instanceMethod yX3_bringBack ∈ lw_tbl := lwm 520 (by decide +kernel)
set_option maxRecDepth 100000 in
theorem mi_X3_shareByValues : Cond.instanceMethod yX3_shareByValues ∈ lw_tbl := lwm 528 (by decide +kernel)
set_option maxRecDepth 100000 in
theorem mi_X3_shareRest : Cond.instanceMethod yX3_shareRest ∈ lw_tbl := lwm 532 (by decide +kernel)
set_option maxRecDepth 100000 in
theorem mi_X6_appendCharacter : Cond.instanceMethod yX6_appendCharacter ∈ lw_tbl := lwm 536 (by decide +kernel)
set_option maxRecDepth 100000 in
theorem mi_X2_append : Cond.instanceMethod yX2_append ∈ lw_tbl := lwm 540 (by decide +kernel)
set_option maxRecDepth 100000 in
theorem mi_X6_clearText : Cond.instanceMethod yX6_clearText ∈ lw_tbl := lwm 547 (by decide +kernel)
set_option maxRecDepth 100000 in
theorem mi_X6_runScript : Cond.instanceMethod yX6_runScript ∈ lw_tbl := lwm 551 (by decide +kernel)
set_option maxRecDepth 100000 in
theorem mi_X2_read : Cond.instanceMethod yX2_read ∈ lw_tbl := lwm 555 (by decide +kernel)
set_option maxRecDepth 100000 in
theorem mi_X2_skipSpaces : Cond.instanceMethod yX2_skipSpaces ∈ lw_tbl := lwm 560 (by decide +kernel)
set_option maxRecDepth 100000 in
theorem mi_X2_readCommand : Cond.instanceMethod yX2_readCommand ∈ lw_tbl := lwm 564 (by decide +kernel)
set_option maxRecDepth 100000 in
theorem mi_X2_readNumber : Cond.instanceMethod yX2_readNumber ∈ lw_tbl := lwm 571 (by decide +kernel)
set_option maxRecDepth 100000 in
theorem mi_X2_readSign : Cond.instanceMethod yX2_readSign ∈ lw_tbl := lwm 578 (by decide +kernel)
set_option maxRecDepth 100000 in
theorem mi_X6_runCommand : Cond.instanceMethod yX6_runCommand ∈ lw_tbl := lwm 583 (by decide +kernel)
set_option maxRecDepth 100000 in
theorem mi_X6_count : Cond.instanceMethod yX6_count ∈ lw_tbl := lwm 587 (by decide +kernel)
set_option maxRecDepth 100000 in
theorem mi_X3_foundProbes : Cond.instanceMethod yX3_foundProbes ∈ lw_tbl := lwm 591 (by decide +kernel)
set_option maxRecDepth 100000 in
theorem mi_X6_van : Cond.instanceMethod yX6_van ∈ lw_tbl := lwm 595 (by decide +kernel)
set_option maxRecDepth 100000 in
theorem mi_X6_zone : Cond.instanceMethod yX6_zone ∈ lw_tbl := lwm 601 (by decide +kernel)
set_option maxRecDepth 100000 in
theorem mi_X6_pallet : Cond.instanceMethod yX6_pallet ∈ lw_tbl := lwm 608 (by decide +kernel)
set_option maxRecDepth 100000 in
theorem mi_X1_property : Cond.instanceMethod yX1_property ∈ lw_tbl := lwm 613 (by decide +kernel)
set_option maxRecDepth 100000 in
theorem mi_X1_cause : Cond.instanceMethod yX1_cause ∈ lw_tbl := lwm 617 (by decide +kernel)
set_option maxRecDepth 100000 in
theorem mi_X1_wasRejected : Cond.instanceMethod yX1_wasRejected ∈ lw_tbl := lwm 621 (by decide +kernel)
set_option maxRecDepth 100000 in
theorem mi_X6_claims : Cond.instanceMethod yX6_claims ∈ lw_tbl := lwm 626 (by decide +kernel)
set_option maxRecDepth 100000 in
theorem mi_X1_claim : Cond.instanceMethod yX1_claim ∈ lw_tbl := lwm 630 (by decide +kernel)
set_option maxRecDepth 100000 in
theorem mi_X1_claimBy : Cond.instanceMethod yX1_claimBy ∈ lw_tbl := lwm 634 (by decide +kernel)
set_option maxRecDepth 100000 in
theorem mi_X6_log : Cond.instanceMethod yX6_log ∈ lw_tbl := lwm 639 (by decide +kernel)
set_option maxRecDepth 100000 in
theorem mi_X6_warm : Cond.instanceMethod yX6_warm ∈ lw_tbl := lwm 645 (by decide +kernel)
set_option maxRecDepth 100000 in
theorem mi_X6_minutesLeft : Cond.instanceMethod yX6_minutesLeft ∈ lw_tbl := lwm 650 (by decide +kernel)
set_option maxRecDepth 100000 in
theorem mi_X6_longestOpen : Cond.instanceMethod yX6_longestOpen ∈ lw_tbl := lwm 657 (by decide +kernel)
set_option maxRecDepth 100000 in
theorem mi_X6_mayBeOpen : Cond.instanceMethod yX6_mayBeOpen ∈ lw_tbl := lwm 662 (by decide +kernel)
set_option maxRecDepth 100000 in
theorem mi_X3_hasOverdue : Cond.instanceMethod yX3_hasOverdue ∈ lw_tbl := lwm 665 (by decide +kernel)
set_option maxRecDepth 100000 in
theorem mi_X6_undo : Cond.instanceMethod yX6_undo ∈ lw_tbl := lwm 669 (by decide +kernel)
set_option maxRecDepth 100000 in
theorem mi_X7_init : Cond.instanceMethod yX7_init ∈ lw_tbl := lwm 675 (by decide +kernel)
set_option maxRecDepth 100000 in
theorem mi_X7_addVan : Cond.instanceMethod yX7_addVan ∈ lw_tbl := lwm 716 (by decide +kernel)
set_option maxRecDepth 100000 in
theorem mi_X7_hold : Cond.instanceMethod yX7_hold ∈ lw_tbl := lwm 729 (by decide +kernel)
set_option maxRecDepth 100000 in
theorem mi_X7_ends : Cond.instanceMethod yX7_ends ∈ lw_tbl := lwm 739 (by decide +kernel)
set_option maxRecDepth 100000 in
theorem mi_X7_setNumber : Cond.instanceMethod yX7_setNumber ∈ lw_tbl := lwm 742 (by decide +kernel)
set_option maxRecDepth 100000 in
theorem mi_X7_setVan : Cond.instanceMethod yX7_setVan ∈ lw_tbl := lwm 749 (by decide +kernel)
set_option maxRecDepth 100000 in
theorem mi_X7_isVan : Cond.instanceMethod yX7_isVan ∈ lw_tbl := lwm 754 (by decide +kernel)
set_option maxRecDepth 100000 in
theorem mi_X7_of : Cond.instanceMethod yX7_of ∈ lw_tbl := lwm 758 (by decide +kernel)
set_option maxRecDepth 100000 in
theorem mi_X7_setProbe : Cond.instanceMethod yX7_setProbe ∈ lw_tbl := lwm 761 (by decide +kernel)
set_option maxRecDepth 100000 in
theorem mi_X7_at : Cond.instanceMethod yX7_at ∈ lw_tbl := lwm 772 (by decide +kernel)
set_option maxRecDepth 100000 in
theorem mi_X7_repair : Cond.instanceMethod yX7_repair ∈ lw_tbl := lwm 775 (by decide +kernel)
set_option maxRecDepth 100000 in
theorem mi_X7_repairs : Cond.instanceMethod yX7_repairs ∈ lw_tbl := lwm 780 (by decide +kernel)
set_option maxRecDepth 100000 in
theorem mi_X7_done : Cond.instanceMethod yX7_done ∈ lw_tbl := lwm 784 (by decide +kernel)
set_option maxRecDepth 100000 in
theorem mi_X7_loadPallet : Cond.instanceMethod yX7_loadPallet ∈ lw_tbl := lwm 787 (by decide +kernel)
set_option maxRecDepth 100000 in
theorem mi_X7_manyIn : Cond.instanceMethod yX7_manyIn ∈ lw_tbl := lwm 793 (by decide +kernel)
set_option maxRecDepth 100000 in
theorem mi_X7_its : Cond.instanceMethod yX7_its ∈ lw_tbl := lwm 797 (by decide +kernel)
set_option maxRecDepth 100000 in
theorem mi_X7_door : Cond.instanceMethod yX7_door ∈ lw_tbl := lwm 803 (by decide +kernel)
set_option maxRecDepth 100000 in
theorem mi_X7_doors : Cond.instanceMethod yX7_doors ∈ lw_tbl := lwm 808 (by decide +kernel)
set_option maxRecDepth 100000 in
theorem mi_X7_inVan : Cond.instanceMethod yX7_inVan ∈ lw_tbl := lwm 812 (by decide +kernel)
set_option maxRecDepth 100000 in
theorem mi_X7_pass : Cond.instanceMethod yX7_pass ∈ lw_tbl := lwm 818 (by decide +kernel)
set_option maxRecDepth 100000 in
theorem mi_X7_passes : Cond.instanceMethod yX7_passes ∈ lw_tbl := lwm 823 (by decide +kernel)
set_option maxRecDepth 100000 in
theorem mi_X7_minute : Cond.instanceMethod yX7_minute ∈ lw_tbl := lwm 827 (by decide +kernel)
set_option maxRecDepth 100000 in
theorem mi_X7_heats : Cond.instanceMethod yX7_heats ∈ lw_tbl := lwm 831 (by decide +kernel)
set_option maxRecDepth 100000 in
theorem mi_X7_reads : Cond.instanceMethod yX7_reads ∈ lw_tbl := lwm 835 (by decide +kernel)
set_option maxRecDepth 100000 in
theorem mi_X7_isOdd : Cond.instanceMethod yX7_isOdd ∈ lw_tbl := lwm 839 (by decide +kernel)
set_option maxRecDepth 100000 in
theorem mi_X7_reading : Cond.instanceMethod yX7_reading ∈ lw_tbl := lwm 843 (by decide +kernel)
set_option maxRecDepth 100000 in
theorem mi_X7_warms : Cond.instanceMethod yX7_warms ∈ lw_tbl := lwm 850 (by decide +kernel)
set_option maxRecDepth 100000 in
theorem mi_X7_told : Cond.instanceMethod yX7_told ∈ lw_tbl := lwm 854 (by decide +kernel)
set_option maxRecDepth 100000 in
theorem mi_X7_deliver : Cond.instanceMethod yX7_deliver ∈ lw_tbl := lwm 857 (by decide +kernel)
set_option maxRecDepth 100000 in
theorem mi_X7_delivers : Cond.instanceMethod yX7_delivers ∈ lw_tbl := lwm 862 (by decide +kernel)
set_option maxRecDepth 100000 in
theorem mi_X7_isPallet : Cond.instanceMethod yX7_isPallet ∈ lw_tbl := lwm 866 (by decide +kernel)
set_option maxRecDepth 100000 in
theorem mi_X7_detour : Cond.instanceMethod yX7_detour ∈ lw_tbl := lwm 869 (by decide +kernel)
set_option maxRecDepth 100000 in
theorem mi_X7_appendCharacter : Cond.instanceMethod yX7_appendCharacter ∈ lw_tbl := lwm 873 (by decide +kernel)
set_option maxRecDepth 100000 in
theorem mi_X7_clearText : Cond.instanceMethod yX7_clearText ∈ lw_tbl := lwm 877 (by decide +kernel)
set_option maxRecDepth 100000 in
theorem mi_X7_runScript : Cond.instanceMethod yX7_runScript ∈ lw_tbl := lwm 881 (by decide +kernel)
set_option maxRecDepth 100000 in
theorem mi_X7_isScript : Cond.instanceMethod yX7_isScript ∈ lw_tbl := lwm 886 (by decide +kernel)
set_option maxRecDepth 100000 in
theorem mi_X7_skips : Cond.instanceMethod yX7_skips ∈ lw_tbl := lwm 890 (by decide +kernel)
set_option maxRecDepth 100000 in
theorem mi_X7_isAt : Cond.instanceMethod yX7_isAt ∈ lw_tbl := lwm 894 (by decide +kernel)
set_option maxRecDepth 100000 in
theorem mi_X7_isCommand : Cond.instanceMethod yX7_isCommand ∈ lw_tbl := lwm 898 (by decide +kernel)
set_option maxRecDepth 100000 in
theorem mi_X7_isFigure : Cond.instanceMethod yX7_isFigure ∈ lw_tbl := lwm 902 (by decide +kernel)
set_option maxRecDepth 100000 in
theorem mi_X7_takes : Cond.instanceMethod yX7_takes ∈ lw_tbl := lwm 906 (by decide +kernel)
set_option maxRecDepth 100000 in
theorem mi_X7_does : Cond.instanceMethod yX7_does ∈ lw_tbl := lwm 911 (by decide +kernel)
set_option maxRecDepth 100000 in
theorem mi_X7_count : Cond.instanceMethod yX7_count ∈ lw_tbl := lwm 915 (by decide +kernel)
set_option maxRecDepth 100000 in
theorem mi_X7_van : Cond.instanceMethod yX7_van ∈ lw_tbl := lwm 919 (by decide +kernel)
set_option maxRecDepth 100000 in
theorem mi_X7_zone : Cond.instanceMethod yX7_zone ∈ lw_tbl := lwm 923 (by decide +kernel)
set_option maxRecDepth 100000 in
theorem mi_X7_pallet : Cond.instanceMethod yX7_pallet ∈ lw_tbl := lwm 927 (by decide +kernel)
set_option maxRecDepth 100000 in
theorem mi_X7_cause : Cond.instanceMethod yX7_cause ∈ lw_tbl := lwm 932 (by decide +kernel)
set_option maxRecDepth 100000 in
theorem mi_X7_claims : Cond.instanceMethod yX7_claims ∈ lw_tbl := lwm 935 (by decide +kernel)
set_option maxRecDepth 100000 in
theorem mi_X7_claim : Cond.instanceMethod yX7_claim ∈ lw_tbl := lwm 940 (by decide +kernel)
set_option maxRecDepth 100000 in
theorem mi_X7_log : Cond.instanceMethod yX7_log ∈ lw_tbl := lwm 943 (by decide +kernel)
set_option maxRecDepth 100000 in
theorem mi_X7_entry : Cond.instanceMethod yX7_entry ∈ lw_tbl := lwm 948 (by decide +kernel)
set_option maxRecDepth 100000 in
theorem mi_X7_warm : Cond.instanceMethod yX7_warm ∈ lw_tbl := lwm 952 (by decide +kernel)
set_option maxRecDepth 100000 in
theorem mi_X7_minutesLeft : Cond.instanceMethod yX7_minutesLeft ∈ lw_tbl := lwm 956 (by decide +kernel)
set_option maxRecDepth 100000 in
theorem mi_X7_longestOpen : Cond.instanceMethod yX7_longestOpen ∈ lw_tbl := lwm 960 (by decide +kernel)
set_option maxRecDepth 100000 in
theorem mi_X7_mayBeOpen : Cond.instanceMethod yX7_mayBeOpen ∈ lw_tbl := lwm 965 (by decide +kernel)
set_option maxRecDepth 100000 in
theorem mi_X7_undo : Cond.instanceMethod yX7_undo ∈ lw_tbl := lwm 968 (by decide +kernel)
set_option maxRecDepth 100000 in
theorem se_X6_addVan : Cond.selects (yX6_addVan).cls yX6_addVan yX6_addVan ∈ lw_tbl := lwm 292 (by decide +kernel)
set_option maxRecDepth 100000 in
theorem se_X3_copyFrom : Cond.selects (yX3_copyFrom).cls yX3_copyFrom yX3_copyFrom ∈ lw_tbl := lwm 300 (by decide +kernel)
set_option maxRecDepth 100000 in
theorem se_X4_copyFrom : Cond.selects (yX4_copyFrom).cls yX4_copyFrom yX4_copyFrom ∈ lw_tbl := lwm 304 (by decide +kernel)
set_option maxRecDepth 100000 in
theorem se_X5_copyFrom : Cond.selects (yX5_copyFrom).cls yX5_copyFrom yX5_copyFrom ∈ lw_tbl := lwm 308 (by decide +kernel)
set_option maxRecDepth 100000 in
theorem se_X1_copyFrom : Cond.selects (yX1_copyFrom).cls yX1_copyFrom yX1_copyFrom ∈ lw_tbl := lwm 312 (by decide +kernel)
set_option maxRecDepth 100000 in
theorem se_X3_putVan : Cond.selects (yX3_putVan).cls yX3_putVan yX3_putVan ∈ lw_tbl := lwm 316 (by decide +kernel)
set_option maxRecDepth 100000 in
theorem se_X4_start : Cond.selects (yX4_start).cls yX4_start yX4_start ∈ lw_tbl := lwm 328 (by decide +kernel)
set_option maxRecDepth 100000 in
theorem se_X5_mend : Cond.selects (yX5_mend).cls yX5_mend yX5_mend ∈ lw_tbl := lwm 332 (by decide +kernel)
set_option maxRecDepth 100000 in
theorem se_X6_setNumber : Cond.selects (yX6_setNumber).cls yX6_setNumber yX6_setNumber ∈ lw_tbl := lwm 347 (by decide +kernel)
set_option maxRecDepth 100000 in
theorem se_X3_changeNumber : Cond.selects (yX3_changeNumber).cls yX3_changeNumber yX3_changeNumber ∈ lw_tbl := lwm 351 (by decide +kernel)
set_option maxRecDepth 100000 in
theorem se_X6_setVan : Cond.selects (yX6_setVan).cls yX6_setVan yX6_setVan ∈ lw_tbl := lwm 356 (by decide +kernel)
set_option maxRecDepth 100000 in
theorem se_X3_changeVan : Cond.selects (yX3_changeVan).cls yX3_changeVan yX3_changeVan ∈ lw_tbl := lwm 360 (by decide +kernel)
set_option maxRecDepth 100000 in
theorem se_X3_hasVan : Cond.selects (yX3_hasVan).cls yX3_hasVan yX3_hasVan ∈ lw_tbl := lwm 364 (by decide +kernel)
set_option maxRecDepth 100000 in
theorem se_X6_setProbe : Cond.selects (yX6_setProbe).cls yX6_setProbe yX6_setProbe ∈ lw_tbl := lwm 368 (by decide +kernel)
set_option maxRecDepth 100000 in
theorem se_X3_changeProbe : Cond.selects (yX3_changeProbe).cls yX3_changeProbe yX3_changeProbe ∈ lw_tbl := lwm 372 (by decide +kernel)
set_option maxRecDepth 100000 in
theorem se_X3_hasZone : Cond.selects (yX3_hasZone).cls yX3_hasZone yX3_hasZone ∈ lw_tbl := lwm 376 (by decide +kernel)
set_option maxRecDepth 100000 in
theorem se_X6_repair : Cond.selects (yX6_repair).cls yX6_repair yX6_repair ∈ lw_tbl := lwm 383 (by decide +kernel)
set_option maxRecDepth 100000 in
theorem se_X3_mendProbe : Cond.selects (yX3_mendProbe).cls yX3_mendProbe yX3_mendProbe ∈ lw_tbl := lwm 387 (by decide +kernel)
set_option maxRecDepth 100000 in
theorem se_X6_loadPallet : Cond.selects (yX6_loadPallet).cls yX6_loadPallet yX6_loadPallet ∈ lw_tbl := lwm 392 (by decide +kernel)
set_option maxRecDepth 100000 in
theorem se_X3_putPallet : Cond.selects (yX3_putPallet).cls yX3_putPallet yX3_putPallet ∈ lw_tbl := lwm 396 (by decide +kernel)
set_option maxRecDepth 100000 in
theorem se_X1_isIn : Cond.selects (yX1_isIn).cls yX1_isIn yX1_isIn ∈ lw_tbl := lwm 411 (by decide +kernel)
set_option maxRecDepth 100000 in
theorem se_X1_start : Cond.selects (yX1_start).cls yX1_start yX1_start ∈ lw_tbl := lwm 415 (by decide +kernel)
set_option maxRecDepth 100000 in
theorem se_X6_door : Cond.selects (yX6_door).cls yX6_door yX6_door ∈ lw_tbl := lwm 419 (by decide +kernel)
set_option maxRecDepth 100000 in
theorem se_X3_turnDoor : Cond.selects (yX3_turnDoor).cls yX3_turnDoor yX3_turnDoor ∈ lw_tbl := lwm 423 (by decide +kernel)
set_option maxRecDepth 100000 in
theorem se_X3_palletsIn : Cond.selects (yX3_palletsIn).cls yX3_palletsIn yX3_palletsIn ∈ lw_tbl := lwm 427 (by decide +kernel)
set_option maxRecDepth 100000 in
theorem se_X6_pass : Cond.selects (yX6_pass).cls yX6_pass yX6_pass ∈ lw_tbl := lwm 437 (by decide +kernel)
set_option maxRecDepth 100000 in
theorem se_X3_letPass : Cond.selects (yX3_letPass).cls yX3_letPass yX3_letPass ∈ lw_tbl := lwm 441 (by decide +kernel)
set_option maxRecDepth 100000 in
theorem se_X3_minuteInVan : Cond.selects (yX3_minuteInVan).cls yX3_minuteInVan yX3_minuteInVan ∈ lw_tbl := lwm 445 (by decide +kernel)
set_option maxRecDepth 100000 in
theorem se_X4_changeTemperatures : Cond.selects (yX4_changeTemperatures).cls yX4_changeTemperatures yX4_changeTemperatures ∈ lw_tbl := lwm 449 (by decide +kernel)
set_option maxRecDepth 100000 in
theorem se_X5_coolTo : Cond.selects (yX5_coolTo).cls yX5_coolTo yX5_coolTo ∈ lw_tbl := lwm 455 (by decide +kernel)
set_option maxRecDepth 100000 in
theorem se_X4_mixAir : Cond.selects (yX4_mixAir).cls yX4_mixAir yX4_mixAir ∈ lw_tbl := lwm 462 (by decide +kernel)
set_option maxRecDepth 100000 in
theorem se_X4_findProbes : Cond.selects (yX4_findProbes).cls yX4_findProbes yX4_findProbes ∈ lw_tbl := lwm 466 (by decide +kernel)
set_option maxRecDepth 100000 in
theorem se_X5_reading : Cond.selects (yX5_reading).cls yX5_reading yX5_reading ∈ lw_tbl := lwm 474 (by decide +kernel)
set_option maxRecDepth 100000 in
theorem se_X1_addMinute : Cond.selects (yX1_addMinute).cls yX1_addMinute yX1_addMinute ∈ lw_tbl := lwm 481 (by decide +kernel)
set_option maxRecDepth 100000 in
theorem se_X4_toldIn : Cond.selects (yX4_toldIn).cls yX4_toldIn yX4_toldIn ∈ lw_tbl := lwm 485 (by decide +kernel)
set_option maxRecDepth 100000 in
theorem se_X0_write : Cond.selects (yX0_write).cls yX0_write yX0_write ∈ lw_tbl := lwm 492 (by decide +kernel)
set_option maxRecDepth 100000 in
theorem se_X0_row : Cond.selects (yX0_row).cls yX0_row yX0_row ∈ lw_tbl := lwm 496 (by decide +kernel)
set_option maxRecDepth 100000 in
theorem se_X6_deliver : Cond.selects (yX6_deliver).cls yX6_deliver yX6_deliver ∈ lw_tbl := lwm 501 (by decide +kernel)
set_option maxRecDepth 100000 in
theorem se_X3_handOver : Cond.selects (yX3_handOver).cls yX3_handOver yX3_handOver ∈ lw_tbl := lwm 505 (by decide +kernel)
set_option maxRecDepth 100000 in
theorem se_X3_hasPallet : Cond.selects (yX3_hasPallet).cls yX3_hasPallet yX3_hasPallet ∈ lw_tbl := lwm 509 (by decide +kernel)
set_option maxRecDepth 100000 in
theorem se_X1_isOverdue : Cond.selects (yX1_isOverdue).cls yX1_isOverdue yX1_isOverdue ∈ lw_tbl := lwm 513 (by decide +kernel)
set_option maxRecDepth 100000 in
theorem se_X6_detour : Cond.selects (yX6_detour).cls yX6_detour yX6_detour ∈ lw_tbl := lwm 517 (by decide +kernel)
set_option maxRecDepth 100000 in
theorem se_X3_bringBack : Cond.selects (yX3_bringBack).cls yX3_bringBack yX3_bringBack ∈ lw_tbl := lwm 521 (by decide +kernel)
set_option maxRecDepth 100000 in
theorem se_X6_appendCharacter : Cond.selects (yX6_appendCharacter).cls yX6_appendCharacter yX6_appendCharacter ∈ lw_tbl := lwm 537 (by decide +kernel)
set_option maxRecDepth 100000 in
theorem se_X2_append : Cond.selects (yX2_append).cls yX2_append yX2_append ∈ lw_tbl := lwm 541 (by decide +kernel)
set_option maxRecDepth 100000 in
theorem se_X6_clearText : Cond.selects (yX6_clearText).cls yX6_clearText yX6_clearText ∈ lw_tbl := lwm 548 (by decide +kernel)
set_option maxRecDepth 100000 in
theorem se_X6_runScript : Cond.selects (yX6_runScript).cls yX6_runScript yX6_runScript ∈ lw_tbl := lwm 552 (by decide +kernel)
set_option maxRecDepth 100000 in
theorem se_X2_read : Cond.selects (yX2_read).cls yX2_read yX2_read ∈ lw_tbl := lwm 556 (by decide +kernel)
set_option maxRecDepth 100000 in
theorem se_X6_count : Cond.selects (yX6_count).cls yX6_count yX6_count ∈ lw_tbl := lwm 588 (by decide +kernel)
set_option maxRecDepth 100000 in
theorem se_X3_foundProbes : Cond.selects (yX3_foundProbes).cls yX3_foundProbes yX3_foundProbes ∈ lw_tbl := lwm 592 (by decide +kernel)
set_option maxRecDepth 100000 in
theorem se_X6_van : Cond.selects (yX6_van).cls yX6_van yX6_van ∈ lw_tbl := lwm 596 (by decide +kernel)
set_option maxRecDepth 100000 in
theorem se_X6_zone : Cond.selects (yX6_zone).cls yX6_zone yX6_zone ∈ lw_tbl := lwm 602 (by decide +kernel)
set_option maxRecDepth 100000 in
theorem se_X6_pallet : Cond.selects (yX6_pallet).cls yX6_pallet yX6_pallet ∈ lw_tbl := lwm 609 (by decide +kernel)
set_option maxRecDepth 100000 in
theorem se_X1_property : Cond.selects (yX1_property).cls yX1_property yX1_property ∈ lw_tbl := lwm 614 (by decide +kernel)
set_option maxRecDepth 100000 in
theorem se_X1_cause : Cond.selects (yX1_cause).cls yX1_cause yX1_cause ∈ lw_tbl := lwm 618 (by decide +kernel)
set_option maxRecDepth 100000 in
theorem se_X1_wasRejected : Cond.selects (yX1_wasRejected).cls yX1_wasRejected yX1_wasRejected ∈ lw_tbl := lwm 622 (by decide +kernel)
set_option maxRecDepth 100000 in
theorem se_X6_claims : Cond.selects (yX6_claims).cls yX6_claims yX6_claims ∈ lw_tbl := lwm 627 (by decide +kernel)
set_option maxRecDepth 100000 in
theorem se_X1_claim : Cond.selects (yX1_claim).cls yX1_claim yX1_claim ∈ lw_tbl := lwm 631 (by decide +kernel)
set_option maxRecDepth 100000 in
theorem se_X1_claimBy : Cond.selects (yX1_claimBy).cls yX1_claimBy yX1_claimBy ∈ lw_tbl := lwm 635 (by decide +kernel)
set_option maxRecDepth 100000 in
theorem se_X6_log : Cond.selects (yX6_log).cls yX6_log yX6_log ∈ lw_tbl := lwm 640 (by decide +kernel)
set_option maxRecDepth 100000 in
theorem se_X6_warm : Cond.selects (yX6_warm).cls yX6_warm yX6_warm ∈ lw_tbl := lwm 646 (by decide +kernel)
set_option maxRecDepth 100000 in
theorem se_X6_minutesLeft : Cond.selects (yX6_minutesLeft).cls yX6_minutesLeft yX6_minutesLeft ∈ lw_tbl := lwm 651 (by decide +kernel)
set_option maxRecDepth 100000 in
theorem se_X6_longestOpen : Cond.selects (yX6_longestOpen).cls yX6_longestOpen yX6_longestOpen ∈ lw_tbl := lwm 658 (by decide +kernel)
set_option maxRecDepth 100000 in
theorem se_X3_hasOverdue : Cond.selects (yX3_hasOverdue).cls yX3_hasOverdue yX3_hasOverdue ∈ lw_tbl := lwm 666 (by decide +kernel)
set_option maxRecDepth 100000 in
theorem se_X6_undo : Cond.selects (yX6_undo).cls yX6_undo yX6_undo ∈ lw_tbl := lwm 670 (by decide +kernel)
set_option maxRecDepth 100000 in
theorem se_X7_addVan : Cond.selects (yX7_addVan).cls yX7_addVan yX7_addVan ∈ lw_tbl := lwm 717 (by decide +kernel)
set_option maxRecDepth 100000 in
theorem se_X7_setNumber : Cond.selects (yX7_setNumber).cls yX7_setNumber yX7_setNumber ∈ lw_tbl := lwm 743 (by decide +kernel)
set_option maxRecDepth 100000 in
theorem se_X7_setVan : Cond.selects (yX7_setVan).cls yX7_setVan yX7_setVan ∈ lw_tbl := lwm 750 (by decide +kernel)
set_option maxRecDepth 100000 in
theorem se_X7_setProbe : Cond.selects (yX7_setProbe).cls yX7_setProbe yX7_setProbe ∈ lw_tbl := lwm 762 (by decide +kernel)
set_option maxRecDepth 100000 in
theorem se_X7_repair : Cond.selects (yX7_repair).cls yX7_repair yX7_repair ∈ lw_tbl := lwm 776 (by decide +kernel)
set_option maxRecDepth 100000 in
theorem se_X7_loadPallet : Cond.selects (yX7_loadPallet).cls yX7_loadPallet yX7_loadPallet ∈ lw_tbl := lwm 788 (by decide +kernel)
set_option maxRecDepth 100000 in
theorem se_X7_door : Cond.selects (yX7_door).cls yX7_door yX7_door ∈ lw_tbl := lwm 804 (by decide +kernel)
set_option maxRecDepth 100000 in
theorem se_X7_pass : Cond.selects (yX7_pass).cls yX7_pass yX7_pass ∈ lw_tbl := lwm 819 (by decide +kernel)
set_option maxRecDepth 100000 in
theorem se_X7_deliver : Cond.selects (yX7_deliver).cls yX7_deliver yX7_deliver ∈ lw_tbl := lwm 858 (by decide +kernel)
set_option maxRecDepth 100000 in
theorem se_X7_detour : Cond.selects (yX7_detour).cls yX7_detour yX7_detour ∈ lw_tbl := lwm 870 (by decide +kernel)
set_option maxRecDepth 100000 in
theorem se_X7_appendCharacter : Cond.selects (yX7_appendCharacter).cls yX7_appendCharacter yX7_appendCharacter ∈ lw_tbl := lwm 874 (by decide +kernel)
set_option maxRecDepth 100000 in
theorem se_X7_clearText : Cond.selects (yX7_clearText).cls yX7_clearText yX7_clearText ∈ lw_tbl := lwm 878 (by decide +kernel)
set_option maxRecDepth 100000 in
theorem se_X7_runScript : Cond.selects (yX7_runScript).cls yX7_runScript yX7_runScript ∈ lw_tbl := lwm 882 (by decide +kernel)
set_option maxRecDepth 100000 in
theorem se_X7_count : Cond.selects (yX7_count).cls yX7_count yX7_count ∈ lw_tbl := lwm 916 (by decide +kernel)
set_option maxRecDepth 100000 in
theorem se_X7_van : Cond.selects (yX7_van).cls yX7_van yX7_van ∈ lw_tbl := lwm 920 (by decide +kernel)
set_option maxRecDepth 100000 in
theorem se_X7_zone : Cond.selects (yX7_zone).cls yX7_zone yX7_zone ∈ lw_tbl := lwm 924 (by decide +kernel)
set_option maxRecDepth 100000 in
theorem se_X7_pallet : Cond.selects (yX7_pallet).cls yX7_pallet yX7_pallet ∈ lw_tbl := lwm 928 (by decide +kernel)
set_option maxRecDepth 100000 in
theorem se_X7_claims : Cond.selects (yX7_claims).cls yX7_claims yX7_claims ∈ lw_tbl := lwm 936 (by decide +kernel)
set_option maxRecDepth 100000 in
theorem se_X7_log : Cond.selects (yX7_log).cls yX7_log yX7_log ∈ lw_tbl := lwm 944 (by decide +kernel)
set_option maxRecDepth 100000 in
theorem se_X7_warm : Cond.selects (yX7_warm).cls yX7_warm yX7_warm ∈ lw_tbl := lwm 953 (by decide +kernel)
set_option maxRecDepth 100000 in
theorem se_X7_minutesLeft : Cond.selects (yX7_minutesLeft).cls yX7_minutesLeft yX7_minutesLeft ∈ lw_tbl := lwm 957 (by decide +kernel)
set_option maxRecDepth 100000 in
theorem se_X7_longestOpen : Cond.selects (yX7_longestOpen).cls yX7_longestOpen yX7_longestOpen ∈ lw_tbl := lwm 961 (by decide +kernel)
set_option maxRecDepth 100000 in
theorem se_X7_undo : Cond.selects (yX7_undo).cls yX7_undo yX7_undo ∈ lw_tbl := lwm 969 (by decide +kernel)
set_option maxRecDepth 100000 in
theorem se_X6_noteState : Cond.selects (yX6_noteState).cls yX6_noteState yX6_noteState ∈ lw_tbl := lwm 0 (by decide +kernel)
set_option maxRecDepth 100000 in
theorem se_X6_kept : Cond.selects (yX6_kept).cls yX6_kept yX6_kept ∈ lw_tbl := lwm 1 (by decide +kernel)
set_option maxRecDepth 100000 in
theorem se_X3_palletsInZone : Cond.selects (yX3_palletsInZone).cls yX3_palletsInZone yX3_palletsInZone ∈ lw_tbl := lwm 2 (by decide +kernel)
set_option maxRecDepth 100000 in
theorem se_X4_isOdd : Cond.selects (yX4_isOdd).cls yX4_isOdd yX4_isOdd ∈ lw_tbl := lwm 3 (by decide +kernel)
set_option maxRecDepth 100000 in
theorem se_X3_shareByValues : Cond.selects (yX3_shareByValues).cls yX3_shareByValues yX3_shareByValues ∈ lw_tbl := lwm 4 (by decide +kernel)
set_option maxRecDepth 100000 in
theorem se_X3_shareRest : Cond.selects (yX3_shareRest).cls yX3_shareRest yX3_shareRest ∈ lw_tbl := lwm 5 (by decide +kernel)
set_option maxRecDepth 100000 in
theorem se_X2_skipSpaces : Cond.selects (yX2_skipSpaces).cls yX2_skipSpaces yX2_skipSpaces ∈ lw_tbl := lwm 6 (by decide +kernel)
set_option maxRecDepth 100000 in
theorem se_X2_readCommand : Cond.selects (yX2_readCommand).cls yX2_readCommand yX2_readCommand ∈ lw_tbl := lwm 7 (by decide +kernel)
set_option maxRecDepth 100000 in
theorem se_X2_readNumber : Cond.selects (yX2_readNumber).cls yX2_readNumber yX2_readNumber ∈ lw_tbl := lwm 8 (by decide +kernel)
set_option maxRecDepth 100000 in
theorem se_X2_readSign : Cond.selects (yX2_readSign).cls yX2_readSign yX2_readSign ∈ lw_tbl := lwm 9 (by decide +kernel)
set_option maxRecDepth 100000 in
theorem se_X6_runCommand : Cond.selects (yX6_runCommand).cls yX6_runCommand yX6_runCommand ∈ lw_tbl := lwm 10 (by decide +kernel)
set_option maxRecDepth 100000 in
theorem se_X6_mayBeOpen : Cond.selects (yX6_mayBeOpen).cls yX6_mayBeOpen yX6_mayBeOpen ∈ lw_tbl := lwm 11 (by decide +kernel)
set_option maxRecDepth 100000 in
theorem se_X7_hold : Cond.selects (yX7_hold).cls yX7_hold yX7_hold ∈ lw_tbl := lwm 12 (by decide +kernel)
set_option maxRecDepth 100000 in
theorem se_X7_ends : Cond.selects (yX7_ends).cls yX7_ends yX7_ends ∈ lw_tbl := lwm 13 (by decide +kernel)
set_option maxRecDepth 100000 in
theorem se_X7_isVan : Cond.selects (yX7_isVan).cls yX7_isVan yX7_isVan ∈ lw_tbl := lwm 14 (by decide +kernel)
set_option maxRecDepth 100000 in
theorem se_X7_of : Cond.selects (yX7_of).cls yX7_of yX7_of ∈ lw_tbl := lwm 15 (by decide +kernel)
set_option maxRecDepth 100000 in
theorem se_X7_at : Cond.selects (yX7_at).cls yX7_at yX7_at ∈ lw_tbl := lwm 16 (by decide +kernel)
set_option maxRecDepth 100000 in
theorem se_X7_repairs : Cond.selects (yX7_repairs).cls yX7_repairs yX7_repairs ∈ lw_tbl := lwm 17 (by decide +kernel)
set_option maxRecDepth 100000 in
theorem se_X7_done : Cond.selects (yX7_done).cls yX7_done yX7_done ∈ lw_tbl := lwm 18 (by decide +kernel)
set_option maxRecDepth 100000 in
theorem se_X7_manyIn : Cond.selects (yX7_manyIn).cls yX7_manyIn yX7_manyIn ∈ lw_tbl := lwm 19 (by decide +kernel)
set_option maxRecDepth 100000 in
theorem se_X7_its : Cond.selects (yX7_its).cls yX7_its yX7_its ∈ lw_tbl := lwm 20 (by decide +kernel)
set_option maxRecDepth 100000 in
theorem se_X7_doors : Cond.selects (yX7_doors).cls yX7_doors yX7_doors ∈ lw_tbl := lwm 21 (by decide +kernel)
set_option maxRecDepth 100000 in
theorem se_X7_inVan : Cond.selects (yX7_inVan).cls yX7_inVan yX7_inVan ∈ lw_tbl := lwm 22 (by decide +kernel)
set_option maxRecDepth 100000 in
theorem se_X7_passes : Cond.selects (yX7_passes).cls yX7_passes yX7_passes ∈ lw_tbl := lwm 23 (by decide +kernel)
set_option maxRecDepth 100000 in
theorem se_X7_minute : Cond.selects (yX7_minute).cls yX7_minute yX7_minute ∈ lw_tbl := lwm 24 (by decide +kernel)
set_option maxRecDepth 100000 in
theorem se_X7_heats : Cond.selects (yX7_heats).cls yX7_heats yX7_heats ∈ lw_tbl := lwm 25 (by decide +kernel)
set_option maxRecDepth 100000 in
theorem se_X7_reads : Cond.selects (yX7_reads).cls yX7_reads yX7_reads ∈ lw_tbl := lwm 26 (by decide +kernel)
set_option maxRecDepth 100000 in
theorem se_X7_isOdd : Cond.selects (yX7_isOdd).cls yX7_isOdd yX7_isOdd ∈ lw_tbl := lwm 27 (by decide +kernel)
set_option maxRecDepth 100000 in
theorem se_X7_reading : Cond.selects (yX7_reading).cls yX7_reading yX7_reading ∈ lw_tbl := lwm 28 (by decide +kernel)
set_option maxRecDepth 100000 in
theorem se_X7_warms : Cond.selects (yX7_warms).cls yX7_warms yX7_warms ∈ lw_tbl := lwm 29 (by decide +kernel)
set_option maxRecDepth 100000 in
theorem se_X7_told : Cond.selects (yX7_told).cls yX7_told yX7_told ∈ lw_tbl := lwm 30 (by decide +kernel)
set_option maxRecDepth 100000 in
theorem se_X7_delivers : Cond.selects (yX7_delivers).cls yX7_delivers yX7_delivers ∈ lw_tbl := lwm 31 (by decide +kernel)
set_option maxRecDepth 100000 in
theorem se_X7_isPallet : Cond.selects (yX7_isPallet).cls yX7_isPallet yX7_isPallet ∈ lw_tbl := lwm 32 (by decide +kernel)
set_option maxRecDepth 100000 in
theorem se_X7_isScript : Cond.selects (yX7_isScript).cls yX7_isScript yX7_isScript ∈ lw_tbl := lwm 33 (by decide +kernel)
set_option maxRecDepth 100000 in
theorem se_X7_skips : Cond.selects (yX7_skips).cls yX7_skips yX7_skips ∈ lw_tbl := lwm 34 (by decide +kernel)
set_option maxRecDepth 100000 in
theorem se_X7_isAt : Cond.selects (yX7_isAt).cls yX7_isAt yX7_isAt ∈ lw_tbl := lwm 35 (by decide +kernel)
set_option maxRecDepth 100000 in
theorem se_X7_isCommand : Cond.selects (yX7_isCommand).cls yX7_isCommand yX7_isCommand ∈ lw_tbl := lwm 36 (by decide +kernel)
set_option maxRecDepth 100000 in
theorem se_X7_isFigure : Cond.selects (yX7_isFigure).cls yX7_isFigure yX7_isFigure ∈ lw_tbl := lwm 37 (by decide +kernel)
set_option maxRecDepth 100000 in
theorem se_X7_takes : Cond.selects (yX7_takes).cls yX7_takes yX7_takes ∈ lw_tbl := lwm 38 (by decide +kernel)
set_option maxRecDepth 100000 in
theorem se_X7_does : Cond.selects (yX7_does).cls yX7_does yX7_does ∈ lw_tbl := lwm 39 (by decide +kernel)
set_option maxRecDepth 100000 in
theorem se_X7_cause : Cond.selects (yX7_cause).cls yX7_cause yX7_cause ∈ lw_tbl := lwm 40 (by decide +kernel)
set_option maxRecDepth 100000 in
theorem se_X7_claim : Cond.selects (yX7_claim).cls yX7_claim yX7_claim ∈ lw_tbl := lwm 41 (by decide +kernel)
set_option maxRecDepth 100000 in
theorem se_X7_entry : Cond.selects (yX7_entry).cls yX7_entry yX7_entry ∈ lw_tbl := lwm 42 (by decide +kernel)
set_option maxRecDepth 100000 in
theorem se_X7_mayBeOpen : Cond.selects (yX7_mayBeOpen).cls yX7_mayBeOpen yX7_mayBeOpen ∈ lw_tbl := lwm 43 (by decide +kernel)
set_option maxRecDepth 100000 in
theorem cd_X6_init : Cond.code yX6_init cX6_init 2 none ∈ lw_tbl := lwm 59 rfl
set_option maxRecDepth 100000 in
theorem cd_X3_init : Cond.code yX3_init cX3_init 2 none ∈ lw_tbl := lwm 67 rfl
set_option maxRecDepth 100000 in
theorem cd_X4_init : Cond.code yX4_init cX4_init 2 none ∈ lw_tbl := lwm 76 rfl
set_option maxRecDepth 100000 in
theorem cd_X5_init : Cond.code yX5_init cX5_init 1 none ∈ lw_tbl := lwm 83 rfl
set_option maxRecDepth 100000 in
theorem cd_X1_init : Cond.code yX1_init cX1_init 1 none ∈ lw_tbl := lwm 144 rfl
set_option maxRecDepth 100000 in
theorem cd_X0_init : Cond.code yX0_init cX0_init 1 none ∈ lw_tbl := lwm 222 rfl
set_option maxRecDepth 100000 in
theorem cd_X2_init : Cond.code yX2_init cX2_init 1 none ∈ lw_tbl := lwm 238 rfl
set_option maxRecDepth 100000 in
theorem cd_X6_addVan : Cond.code yX6_addVan cX6_addVan 3 (some .int) ∈ lw_tbl := lwm 293 rfl
set_option maxRecDepth 100000 in
theorem cd_X6_noteState : Cond.code yX6_noteState cX6_noteState 1 none ∈ lw_tbl := lwm 297 rfl
set_option maxRecDepth 100000 in
theorem cd_X3_copyFrom : Cond.code yX3_copyFrom cX3_copyFrom 3 none ∈ lw_tbl := lwm 301 rfl
set_option maxRecDepth 100000 in
theorem cd_X4_copyFrom : Cond.code yX4_copyFrom cX4_copyFrom 3 none ∈ lw_tbl := lwm 305 rfl
set_option maxRecDepth 100000 in
theorem cd_X5_copyFrom : Cond.code yX5_copyFrom cX5_copyFrom 2 none ∈ lw_tbl := lwm 309 rfl
set_option maxRecDepth 100000 in
theorem cd_X1_copyFrom : Cond.code yX1_copyFrom cX1_copyFrom 2 none ∈ lw_tbl := lwm 313 rfl
set_option maxRecDepth 100000 in
theorem cd_X3_putVan : Cond.code yX3_putVan cX3_putVan 4 (some .int) ∈ lw_tbl := lwm 317 rfl
set_option maxRecDepth 100000 in
theorem cd_X6_isVanSetting : Cond.code yX6_isVanSetting cX6_isVanSetting 2 (some .boolean) ∈ lw_tbl := lwm 320 rfl
set_option maxRecDepth 100000 in
theorem cd_X6_isWithin : Cond.code yX6_isWithin cX6_isWithin 3 (some .boolean) ∈ lw_tbl := lwm 323 rfl
set_option maxRecDepth 100000 in
theorem cd_X4_start : Cond.code yX4_start cX4_start 5 none ∈ lw_tbl := lwm 329 rfl
set_option maxRecDepth 100000 in
theorem cd_X5_mend : Cond.code yX5_mend cX5_mend 1 none ∈ lw_tbl := lwm 333 rfl
set_option maxRecDepth 100000 in
theorem cd_X6_kept : Cond.code yX6_kept cX6_kept 2 (some .int) ∈ lw_tbl := lwm 337 rfl
set_option maxRecDepth 100000 in
theorem cd_X6_isError : Cond.code yX6_isError cX6_isError 1 (some .boolean) ∈ lw_tbl := lwm 340 rfl
set_option maxRecDepth 100000 in
theorem cd_J9_min_7cf53 : Cond.code yJ9_min_7cf53 cJ9_min_7cf53 2 (some .int) ∈ lw_tbl := lwm 344 rfl
set_option maxRecDepth 100000 in
theorem cd_X6_setNumber : Cond.code yX6_setNumber cX6_setNumber 3 (some .int) ∈ lw_tbl := lwm 348 rfl
set_option maxRecDepth 100000 in
theorem cd_X3_changeNumber : Cond.code yX3_changeNumber cX3_changeNumber 4 (some .int) ∈ lw_tbl := lwm 352 rfl
set_option maxRecDepth 100000 in
theorem cd_X6_setVan : Cond.code yX6_setVan cX6_setVan 4 (some .int) ∈ lw_tbl := lwm 357 rfl
set_option maxRecDepth 100000 in
theorem cd_X3_changeVan : Cond.code yX3_changeVan cX3_changeVan 5 (some .int) ∈ lw_tbl := lwm 361 rfl
set_option maxRecDepth 100000 in
theorem cd_X3_hasVan : Cond.code yX3_hasVan cX3_hasVan 2 (some .boolean) ∈ lw_tbl := lwm 365 rfl
set_option maxRecDepth 100000 in
theorem cd_X6_setProbe : Cond.code yX6_setProbe cX6_setProbe 5 (some .int) ∈ lw_tbl := lwm 369 rfl
set_option maxRecDepth 100000 in
theorem cd_X3_changeProbe : Cond.code yX3_changeProbe cX3_changeProbe 7 (some .int) ∈ lw_tbl := lwm 373 rfl
set_option maxRecDepth 100000 in
theorem cd_X3_hasZone : Cond.code yX3_hasZone cX3_hasZone 3 (some .boolean) ∈ lw_tbl := lwm 377 rfl
set_option maxRecDepth 100000 in
theorem cd_X6_isProbeSetting : Cond.code yX6_isProbeSetting cX6_isProbeSetting 2 (some .boolean) ∈ lw_tbl := lwm 380 rfl
set_option maxRecDepth 100000 in
theorem cd_X6_repair : Cond.code yX6_repair cX6_repair 3 (some .int) ∈ lw_tbl := lwm 384 rfl
set_option maxRecDepth 100000 in
theorem cd_X3_mendProbe : Cond.code yX3_mendProbe cX3_mendProbe 5 (some .int) ∈ lw_tbl := lwm 388 rfl
set_option maxRecDepth 100000 in
theorem cd_X6_loadPallet : Cond.code yX6_loadPallet cX6_loadPallet 6 (some .int) ∈ lw_tbl := lwm 393 rfl
set_option maxRecDepth 100000 in
theorem cd_X3_putPallet : Cond.code yX3_putPallet cX3_putPallet 7 (some .int) ∈ lw_tbl := lwm 397 rfl
set_option maxRecDepth 100000 in
theorem cd_X6_isLimit : Cond.code yX6_isLimit cX6_isLimit 1 (some .boolean) ∈ lw_tbl := lwm 400 rfl
set_option maxRecDepth 100000 in
theorem cd_X6_isPrice : Cond.code yX6_isPrice cX6_isPrice 1 (some .boolean) ∈ lw_tbl := lwm 403 rfl
set_option maxRecDepth 100000 in
theorem cd_X3_palletsInZone : Cond.code yX3_palletsInZone cX3_palletsInZone 5 (some .int) ∈ lw_tbl := lwm 408 rfl
set_option maxRecDepth 100000 in
theorem cd_X1_isIn : Cond.code yX1_isIn cX1_isIn 2 (some .boolean) ∈ lw_tbl := lwm 412 rfl
set_option maxRecDepth 100000 in
theorem cd_X1_start : Cond.code yX1_start cX1_start 6 none ∈ lw_tbl := lwm 416 rfl
set_option maxRecDepth 100000 in
theorem cd_X6_door : Cond.code yX6_door cX6_door 3 (some .int) ∈ lw_tbl := lwm 420 rfl
set_option maxRecDepth 100000 in
theorem cd_X3_turnDoor : Cond.code yX3_turnDoor cX3_turnDoor 4 (some .int) ∈ lw_tbl := lwm 424 rfl
set_option maxRecDepth 100000 in
theorem cd_X3_palletsIn : Cond.code yX3_palletsIn cX3_palletsIn 4 (some .int) ∈ lw_tbl := lwm 428 rfl
set_option maxRecDepth 100000 in
theorem cd_J6_bitCount_0f7a4 : Cond.code yJ6_bitCount_0f7a4 cJ6_bitCount_0f7a4 1 (some .int) ∈ lw_tbl := lwm 431 rfl
set_option maxRecDepth 100000 in
theorem cd_X6_pass : Cond.code yX6_pass cX6_pass 2 (some .int) ∈ lw_tbl := lwm 438 rfl
set_option maxRecDepth 100000 in
theorem cd_X3_letPass : Cond.code yX3_letPass cX3_letPass 6 (some .int) ∈ lw_tbl := lwm 442 rfl
set_option maxRecDepth 100000 in
theorem cd_X3_minuteInVan : Cond.code yX3_minuteInVan cX3_minuteInVan 5 (some .int) ∈ lw_tbl := lwm 446 rfl
set_option maxRecDepth 100000 in
theorem cd_X4_changeTemperatures : Cond.code yX4_changeTemperatures cX4_changeTemperatures 4 none ∈ lw_tbl := lwm 450 rfl
set_option maxRecDepth 100000 in
theorem cd_X5_coolTo : Cond.code yX5_coolTo cX5_coolTo 3 none ∈ lw_tbl := lwm 456 rfl
set_option maxRecDepth 100000 in
theorem cd_J9_max_7cf53 : Cond.code yJ9_max_7cf53 cJ9_max_7cf53 2 (some .int) ∈ lw_tbl := lwm 459 rfl
set_option maxRecDepth 100000 in
theorem cd_X4_mixAir : Cond.code yX4_mixAir cX4_mixAir 3 none ∈ lw_tbl := lwm 463 rfl
set_option maxRecDepth 100000 in
theorem cd_X4_findProbes : Cond.code yX4_findProbes cX4_findProbes 6 (some .int) ∈ lw_tbl := lwm 467 rfl
set_option maxRecDepth 100000 in
theorem cd_X4_isOdd : Cond.code yX4_isOdd cX4_isOdd 6 (some .boolean) ∈ lw_tbl := lwm 471 rfl
set_option maxRecDepth 100000 in
theorem cd_X5_reading : Cond.code yX5_reading cX5_reading 1 (some .int) ∈ lw_tbl := lwm 475 rfl
set_option maxRecDepth 100000 in
theorem cd_J9_abs_0f7a4 : Cond.code yJ9_abs_0f7a4 cJ9_abs_0f7a4 1 (some .int) ∈ lw_tbl := lwm 478 rfl
set_option maxRecDepth 100000 in
theorem cd_X1_addMinute : Cond.code yX1_addMinute cX1_addMinute 2 none ∈ lw_tbl := lwm 482 rfl
set_option maxRecDepth 100000 in
theorem cd_X4_toldIn : Cond.code yX4_toldIn cX4_toldIn 4 (some .int) ∈ lw_tbl := lwm 486 rfl
set_option maxRecDepth 100000 in
theorem cd_J9_floorDiv_7cf53 : Cond.code yJ9_floorDiv_7cf53 cJ9_floorDiv_7cf53 3 (some .int) ∈ lw_tbl := lwm 489 rfl
set_option maxRecDepth 100000 in
theorem cd_X0_write : Cond.code yX0_write cX0_write 5 none ∈ lw_tbl := lwm 493 rfl
set_option maxRecDepth 100000 in
theorem cd_X0_row : Cond.code yX0_row cX0_row 5 (some (.array .int)) ∈ lw_tbl := lwm 497 rfl
set_option maxRecDepth 100000 in
theorem cd_X6_deliver : Cond.code yX6_deliver cX6_deliver 2 (some .int) ∈ lw_tbl := lwm 502 rfl
set_option maxRecDepth 100000 in
theorem cd_X3_handOver : Cond.code yX3_handOver cX3_handOver 3 (some .int) ∈ lw_tbl := lwm 506 rfl
set_option maxRecDepth 100000 in
theorem cd_X3_hasPallet : Cond.code yX3_hasPallet cX3_hasPallet 2 (some .boolean) ∈ lw_tbl := lwm 510 rfl
set_option maxRecDepth 100000 in
theorem cd_X1_isOverdue : Cond.code yX1_isOverdue cX1_isOverdue 1 (some .boolean) ∈ lw_tbl := lwm 514 rfl
set_option maxRecDepth 100000 in
theorem cd_X6_detour : Cond.code yX6_detour cX6_detour 3 (some .int) ∈ lw_tbl := lwm 518 rfl
set_option maxRecDepth 100000 in
theorem cd_X3_bringBack : Cond.code yX3_bringBack cX3_bringBack 4 (some .int) ∈ lw_tbl := lwm 522 rfl
set_option maxRecDepth 100000 in
theorem cd_X3_isIn : Cond.code yX3_isIn cX3_isIn 2 (some .boolean) ∈ lw_tbl := lwm 525 rfl
set_option maxRecDepth 100000 in
theorem cd_X3_shareByValues : Cond.code yX3_shareByValues cX3_shareByValues 6 none ∈ lw_tbl := lwm 529 rfl
set_option maxRecDepth 100000 in
theorem cd_X3_shareRest : Cond.code yX3_shareRest cX3_shareRest 6 (some .int) ∈ lw_tbl := lwm 533 rfl
set_option maxRecDepth 100000 in
theorem cd_X6_appendCharacter : Cond.code yX6_appendCharacter cX6_appendCharacter 2 (some .int) ∈ lw_tbl := lwm 538 rfl
set_option maxRecDepth 100000 in
theorem cd_X2_append : Cond.code yX2_append cX2_append 2 (some .int) ∈ lw_tbl := lwm 542 rfl
set_option maxRecDepth 100000 in
theorem cd_X6_clearText : Cond.code yX6_clearText cX6_clearText 2 (some .int) ∈ lw_tbl := lwm 549 rfl
set_option maxRecDepth 100000 in
theorem cd_X6_runScript : Cond.code yX6_runScript cX6_runScript 4 (some .int) ∈ lw_tbl := lwm 553 rfl
set_option maxRecDepth 100000 in
theorem cd_X2_read : Cond.code yX2_read cX2_read 1 (some .int) ∈ lw_tbl := lwm 557 rfl
set_option maxRecDepth 100000 in
theorem cd_X2_skipSpaces : Cond.code yX2_skipSpaces cX2_skipSpaces 1 none ∈ lw_tbl := lwm 561 rfl
set_option maxRecDepth 100000 in
theorem cd_X2_readCommand : Cond.code yX2_readCommand cX2_readCommand 3 (some .boolean) ∈ lw_tbl := lwm 565 rfl
set_option maxRecDepth 100000 in
theorem cd_X2_isLetter : Cond.code yX2_isLetter cX2_isLetter 1 (some .boolean) ∈ lw_tbl := lwm 568 rfl
set_option maxRecDepth 100000 in
theorem cd_X2_readNumber : Cond.code yX2_readNumber cX2_readNumber 5 (some .int) ∈ lw_tbl := lwm 572 rfl
set_option maxRecDepth 100000 in
theorem cd_X2_isDigit : Cond.code yX2_isDigit cX2_isDigit 1 (some .boolean) ∈ lw_tbl := lwm 575 rfl
set_option maxRecDepth 100000 in
theorem cd_X2_readSign : Cond.code yX2_readSign cX2_readSign 2 (some .boolean) ∈ lw_tbl := lwm 579 rfl
set_option maxRecDepth 100000 in
theorem cd_X6_runCommand : Cond.code yX6_runCommand cX6_runCommand 3 (some .int) ∈ lw_tbl := lwm 584 rfl
set_option maxRecDepth 100000 in
theorem cd_X6_count : Cond.code yX6_count cX6_count 2 (some .int) ∈ lw_tbl := lwm 589 rfl
set_option maxRecDepth 100000 in
theorem cd_X3_foundProbes : Cond.code yX3_foundProbes cX3_foundProbes 4 (some .int) ∈ lw_tbl := lwm 593 rfl
set_option maxRecDepth 100000 in
theorem cd_X6_van : Cond.code yX6_van cX6_van 4 (some .int) ∈ lw_tbl := lwm 597 rfl
set_option maxRecDepth 100000 in
theorem cd_X6_zone : Cond.code yX6_zone cX6_zone 5 (some .int) ∈ lw_tbl := lwm 603 rfl
set_option maxRecDepth 100000 in
theorem cd_X6_pallet : Cond.code yX6_pallet cX6_pallet 3 (some .int) ∈ lw_tbl := lwm 610 rfl
set_option maxRecDepth 100000 in
theorem cd_X1_property : Cond.code yX1_property cX1_property 2 (some .int) ∈ lw_tbl := lwm 615 rfl
set_option maxRecDepth 100000 in
theorem cd_X1_cause : Cond.code yX1_cause cX1_cause 1 (some .int) ∈ lw_tbl := lwm 619 rfl
set_option maxRecDepth 100000 in
theorem cd_X1_wasRejected : Cond.code yX1_wasRejected cX1_wasRejected 1 (some .boolean) ∈ lw_tbl := lwm 623 rfl
set_option maxRecDepth 100000 in
theorem cd_X6_claims : Cond.code yX6_claims cX6_claims 5 (some .int) ∈ lw_tbl := lwm 628 rfl
set_option maxRecDepth 100000 in
theorem cd_X1_claim : Cond.code yX1_claim cX1_claim 1 (some .int) ∈ lw_tbl := lwm 632 rfl
set_option maxRecDepth 100000 in
theorem cd_X1_claimBy : Cond.code yX1_claimBy cX1_claimBy 5 (some .int) ∈ lw_tbl := lwm 636 rfl
set_option maxRecDepth 100000 in
theorem cd_X6_log : Cond.code yX6_log cX6_log 5 (some .int) ∈ lw_tbl := lwm 641 rfl
set_option maxRecDepth 100000 in
theorem cd_X6_warm : Cond.code yX6_warm cX6_warm 11 (some .int) ∈ lw_tbl := lwm 647 rfl
set_option maxRecDepth 100000 in
theorem cd_X6_minutesLeft : Cond.code yX6_minutesLeft cX6_minutesLeft 4 (some .int) ∈ lw_tbl := lwm 652 rfl
set_option maxRecDepth 100000 in
theorem cd_X6_longestOpen : Cond.code yX6_longestOpen cX6_longestOpen 3 (some .int) ∈ lw_tbl := lwm 659 rfl
set_option maxRecDepth 100000 in
theorem cd_X6_mayBeOpen : Cond.code yX6_mayBeOpen cX6_mayBeOpen 4 (some .boolean) ∈ lw_tbl := lwm 663 rfl
set_option maxRecDepth 100000 in
theorem cd_X3_hasOverdue : Cond.code yX3_hasOverdue cX3_hasOverdue 3 (some .boolean) ∈ lw_tbl := lwm 667 rfl
set_option maxRecDepth 100000 in
theorem cd_X6_undo : Cond.code yX6_undo cX6_undo 1 (some .int) ∈ lw_tbl := lwm 671 rfl
set_option maxRecDepth 100000 in
theorem cd_X7_init : Cond.code yX7_init cX7_init 1 none ∈ lw_tbl := lwm 676 rfl
set_option maxRecDepth 100000 in
theorem cd_X7_addVan : Cond.code yX7_addVan cX7_addVan 5 (some .int) ∈ lw_tbl := lwm 718 rfl
set_option maxRecDepth 100000 in
theorem cd_X7_isCold : Cond.code yX7_isCold cX7_isCold 2 (some .boolean) ∈ lw_tbl := lwm 721 rfl
set_option maxRecDepth 100000 in
theorem cd_X7_in : Cond.code yX7_in cX7_in 3 (some .boolean) ∈ lw_tbl := lwm 724 rfl
set_option maxRecDepth 100000 in
theorem cd_X7_hold : Cond.code yX7_hold cX7_hold 1 none ∈ lw_tbl := lwm 730 rfl
set_option maxRecDepth 100000 in
theorem cd_X7_copies : Cond.code yX7_copies cX7_copies 3 none ∈ lw_tbl := lwm 733 rfl
set_option maxRecDepth 100000 in
theorem cd_X7_zoneSpot : Cond.code yX7_zoneSpot cX7_zoneSpot 2 (some .int) ∈ lw_tbl := lwm 736 rfl
set_option maxRecDepth 100000 in
theorem cd_X7_ends : Cond.code yX7_ends cX7_ends 3 (some .int) ∈ lw_tbl := lwm 740 rfl
set_option maxRecDepth 100000 in
theorem cd_X7_setNumber : Cond.code yX7_setNumber cX7_setNumber 4 (some .int) ∈ lw_tbl := lwm 744 rfl
set_option maxRecDepth 100000 in
theorem cd_X7_isNumber : Cond.code yX7_isNumber cX7_isNumber 2 (some .boolean) ∈ lw_tbl := lwm 747 rfl
set_option maxRecDepth 100000 in
theorem cd_X7_setVan : Cond.code yX7_setVan cX7_setVan 5 (some .int) ∈ lw_tbl := lwm 751 rfl
set_option maxRecDepth 100000 in
theorem cd_X7_isVan : Cond.code yX7_isVan cX7_isVan 2 (some .boolean) ∈ lw_tbl := lwm 755 rfl
set_option maxRecDepth 100000 in
theorem cd_X7_of : Cond.code yX7_of cX7_of 3 (some .int) ∈ lw_tbl := lwm 759 rfl
set_option maxRecDepth 100000 in
theorem cd_X7_setProbe : Cond.code yX7_setProbe cX7_setProbe 6 (some .int) ∈ lw_tbl := lwm 763 rfl
set_option maxRecDepth 100000 in
theorem cd_X7_isZone : Cond.code yX7_isZone cX7_isZone 1 (some .boolean) ∈ lw_tbl := lwm 766 rfl
set_option maxRecDepth 100000 in
theorem cd_X7_isMode : Cond.code yX7_isMode cX7_isMode 2 (some .boolean) ∈ lw_tbl := lwm 769 rfl
set_option maxRecDepth 100000 in
theorem cd_X7_at : Cond.code yX7_at cX7_at 4 (some .int) ∈ lw_tbl := lwm 773 rfl
set_option maxRecDepth 100000 in
theorem cd_X7_repair : Cond.code yX7_repair cX7_repair 3 (some .int) ∈ lw_tbl := lwm 777 rfl
set_option maxRecDepth 100000 in
theorem cd_X7_repairs : Cond.code yX7_repairs cX7_repairs 5 (some .int) ∈ lw_tbl := lwm 781 rfl
set_option maxRecDepth 100000 in
theorem cd_X7_done : Cond.code yX7_done cX7_done 2 (some .int) ∈ lw_tbl := lwm 785 rfl
set_option maxRecDepth 100000 in
theorem cd_X7_loadPallet : Cond.code yX7_loadPallet cX7_loadPallet 9 (some .int) ∈ lw_tbl := lwm 789 rfl
set_option maxRecDepth 100000 in
theorem cd_X7_manyIn : Cond.code yX7_manyIn cX7_manyIn 5 (some .int) ∈ lw_tbl := lwm 794 rfl
set_option maxRecDepth 100000 in
theorem cd_X7_its : Cond.code yX7_its cX7_its 3 (some .int) ∈ lw_tbl := lwm 798 rfl
set_option maxRecDepth 100000 in
theorem cd_X7_palletSpot : Cond.code yX7_palletSpot cX7_palletSpot 1 (some .int) ∈ lw_tbl := lwm 801 rfl
set_option maxRecDepth 100000 in
theorem cd_X7_door : Cond.code yX7_door cX7_door 3 (some .int) ∈ lw_tbl := lwm 805 rfl
set_option maxRecDepth 100000 in
theorem cd_X7_doors : Cond.code yX7_doors cX7_doors 3 (some .int) ∈ lw_tbl := lwm 809 rfl
set_option maxRecDepth 100000 in
theorem cd_X7_inVan : Cond.code yX7_inVan cX7_inVan 4 (some .int) ∈ lw_tbl := lwm 813 rfl
set_option maxRecDepth 100000 in
theorem cd_X7_bits : Cond.code yX7_bits cX7_bits 3 (some .int) ∈ lw_tbl := lwm 816 rfl
set_option maxRecDepth 100000 in
theorem cd_X7_pass : Cond.code yX7_pass cX7_pass 2 (some .int) ∈ lw_tbl := lwm 820 rfl
set_option maxRecDepth 100000 in
theorem cd_X7_passes : Cond.code yX7_passes cX7_passes 4 (some .int) ∈ lw_tbl := lwm 824 rfl
set_option maxRecDepth 100000 in
theorem cd_X7_minute : Cond.code yX7_minute cX7_minute 5 (some .int) ∈ lw_tbl := lwm 828 rfl
set_option maxRecDepth 100000 in
theorem cd_X7_heats : Cond.code yX7_heats cX7_heats 7 none ∈ lw_tbl := lwm 832 rfl
set_option maxRecDepth 100000 in
theorem cd_X7_reads : Cond.code yX7_reads cX7_reads 5 (some .int) ∈ lw_tbl := lwm 836 rfl
set_option maxRecDepth 100000 in
theorem cd_X7_isOdd : Cond.code yX7_isOdd cX7_isOdd 6 (some .boolean) ∈ lw_tbl := lwm 840 rfl
set_option maxRecDepth 100000 in
theorem cd_X7_reading : Cond.code yX7_reading cX7_reading 4 (some .int) ∈ lw_tbl := lwm 844 rfl
set_option maxRecDepth 100000 in
theorem cd_X7_apart : Cond.code yX7_apart cX7_apart 2 (some .int) ∈ lw_tbl := lwm 847 rfl
set_option maxRecDepth 100000 in
theorem cd_X7_warms : Cond.code yX7_warms cX7_warms 5 none ∈ lw_tbl := lwm 851 rfl
set_option maxRecDepth 100000 in
theorem cd_X7_told : Cond.code yX7_told cX7_told 4 (some .int) ∈ lw_tbl := lwm 855 rfl
set_option maxRecDepth 100000 in
theorem cd_X7_deliver : Cond.code yX7_deliver cX7_deliver 2 (some .int) ∈ lw_tbl := lwm 859 rfl
set_option maxRecDepth 100000 in
theorem cd_X7_delivers : Cond.code yX7_delivers cX7_delivers 2 (some .int) ∈ lw_tbl := lwm 863 rfl
set_option maxRecDepth 100000 in
theorem cd_X7_isPallet : Cond.code yX7_isPallet cX7_isPallet 2 (some .boolean) ∈ lw_tbl := lwm 867 rfl
set_option maxRecDepth 100000 in
theorem cd_X7_detour : Cond.code yX7_detour cX7_detour 9 (some .int) ∈ lw_tbl := lwm 871 rfl
set_option maxRecDepth 100000 in
theorem cd_X7_appendCharacter : Cond.code yX7_appendCharacter cX7_appendCharacter 2 (some .int) ∈ lw_tbl := lwm 875 rfl
set_option maxRecDepth 100000 in
theorem cd_X7_clearText : Cond.code yX7_clearText cX7_clearText 2 (some .int) ∈ lw_tbl := lwm 879 rfl
set_option maxRecDepth 100000 in
theorem cd_X7_runScript : Cond.code yX7_runScript cX7_runScript 2 (some .int) ∈ lw_tbl := lwm 883 rfl
set_option maxRecDepth 100000 in
theorem cd_X7_isScript : Cond.code yX7_isScript cX7_isScript 1 (some .boolean) ∈ lw_tbl := lwm 887 rfl
set_option maxRecDepth 100000 in
theorem cd_X7_skips : Cond.code yX7_skips cX7_skips 1 none ∈ lw_tbl := lwm 891 rfl
set_option maxRecDepth 100000 in
theorem cd_X7_isAt : Cond.code yX7_isAt cX7_isAt 3 (some .boolean) ∈ lw_tbl := lwm 895 rfl
set_option maxRecDepth 100000 in
theorem cd_X7_isCommand : Cond.code yX7_isCommand cX7_isCommand 1 (some .boolean) ∈ lw_tbl := lwm 899 rfl
set_option maxRecDepth 100000 in
theorem cd_X7_isFigure : Cond.code yX7_isFigure cX7_isFigure 4 (some .boolean) ∈ lw_tbl := lwm 903 rfl
set_option maxRecDepth 100000 in
theorem cd_X7_takes : Cond.code yX7_takes cX7_takes 3 (some .boolean) ∈ lw_tbl := lwm 907 rfl
set_option maxRecDepth 100000 in
theorem cd_X7_does : Cond.code yX7_does cX7_does 1 (some .int) ∈ lw_tbl := lwm 912 rfl
set_option maxRecDepth 100000 in
theorem cd_X7_count : Cond.code yX7_count cX7_count 4 (some .int) ∈ lw_tbl := lwm 917 rfl
set_option maxRecDepth 100000 in
theorem cd_X7_van : Cond.code yX7_van cX7_van 3 (some .int) ∈ lw_tbl := lwm 921 rfl
set_option maxRecDepth 100000 in
theorem cd_X7_zone : Cond.code yX7_zone cX7_zone 4 (some .int) ∈ lw_tbl := lwm 925 rfl
set_option maxRecDepth 100000 in
theorem cd_X7_pallet : Cond.code yX7_pallet cX7_pallet 3 (some .int) ∈ lw_tbl := lwm 929 rfl
set_option maxRecDepth 100000 in
theorem cd_X7_cause : Cond.code yX7_cause cX7_cause 2 (some .int) ∈ lw_tbl := lwm 933 rfl
set_option maxRecDepth 100000 in
theorem cd_X7_claims : Cond.code yX7_claims cX7_claims 4 (some .int) ∈ lw_tbl := lwm 937 rfl
set_option maxRecDepth 100000 in
theorem cd_X7_claim : Cond.code yX7_claim cX7_claim 6 (some .int) ∈ lw_tbl := lwm 941 rfl
set_option maxRecDepth 100000 in
theorem cd_X7_log : Cond.code yX7_log cX7_log 5 (some .int) ∈ lw_tbl := lwm 945 rfl
set_option maxRecDepth 100000 in
theorem cd_X7_entry : Cond.code yX7_entry cX7_entry 5 (some .int) ∈ lw_tbl := lwm 949 rfl
set_option maxRecDepth 100000 in
theorem cd_X7_warm : Cond.code yX7_warm cX7_warm 11 (some .int) ∈ lw_tbl := lwm 954 rfl
set_option maxRecDepth 100000 in
theorem cd_X7_minutesLeft : Cond.code yX7_minutesLeft cX7_minutesLeft 4 (some .int) ∈ lw_tbl := lwm 958 rfl
set_option maxRecDepth 100000 in
theorem cd_X7_longestOpen : Cond.code yX7_longestOpen cX7_longestOpen 3 (some .int) ∈ lw_tbl := lwm 962 rfl
set_option maxRecDepth 100000 in
theorem cd_X7_mayBeOpen : Cond.code yX7_mayBeOpen cX7_mayBeOpen 6 (some .boolean) ∈ lw_tbl := lwm 966 rfl
set_option maxRecDepth 100000 in
theorem cd_X7_undo : Cond.code yX7_undo cX7_undo 2 (some .int) ∈ lw_tbl := lwm 970 rfl
set_option maxRecDepth 100000 in
theorem ini_L : Cond.initialized RL ∈ lw_tbl := lwm 44 (by decide +kernel)
set_option maxRecDepth 100000 in
theorem ini_X6 : Cond.initialized RX6 ∈ lw_tbl := lwm 45 (by decide +kernel)
set_option maxRecDepth 100000 in
theorem ini_X3 : Cond.initialized RX3 ∈ lw_tbl := lwm 46 (by decide +kernel)
set_option maxRecDepth 100000 in
theorem ini_X4 : Cond.initialized RX4 ∈ lw_tbl := lwm 47 (by decide +kernel)
set_option maxRecDepth 100000 in
theorem ini_X5 : Cond.initialized RX5 ∈ lw_tbl := lwm 48 (by decide +kernel)
set_option maxRecDepth 100000 in
theorem ini_X1 : Cond.initialized RX1 ∈ lw_tbl := lwm 49 (by decide +kernel)
set_option maxRecDepth 100000 in
theorem ini_X0 : Cond.initialized RX0 ∈ lw_tbl := lwm 50 (by decide +kernel)
set_option maxRecDepth 100000 in
theorem ini_X2 : Cond.initialized RX2 ∈ lw_tbl := lwm 51 (by decide +kernel)
set_option maxRecDepth 100000 in
theorem ini_X7 : Cond.initialized RX7 ∈ lw_tbl := lwm 52 (by decide +kernel)
set_option maxRecDepth 100000 in
theorem ini_J9 : Cond.initialized RJ9 ∈ lw_tbl := lwm 53 (by decide +kernel)
set_option maxRecDepth 100000 in
theorem ini_J6 : Cond.initialized RJ6 ∈ lw_tbl := lwm 54 (by decide +kernel)
set_option maxRecDepth 100000 in
theorem cw_L_100 : CWd RL 100 yX6_minutesLeft cX6_minutesLeft 4 (some .int) 1 := ⟨lwm 649 (by decide +kernel), cd_X6_minutesLeft, ini_X6, by decide +kernel, by decide +kernel⟩
set_option maxRecDepth 100000 in
theorem cw_L_103 : CWd RL 103 yX7_minutesLeft cX7_minutesLeft 4 (some .int) 1 := ⟨lwm 955 (by decide +kernel), cd_X7_minutesLeft, ini_X7, by decide +kernel, by decide +kernel⟩
set_option maxRecDepth 100000 in
theorem cw_L_104 : CWd RL 104 yX6_longestOpen cX6_longestOpen 3 (some .int) 1 := ⟨lwm 656 (by decide +kernel), cd_X6_longestOpen, ini_X6, by decide +kernel, by decide +kernel⟩
set_option maxRecDepth 100000 in
theorem cw_L_107 : CWd RL 107 yX7_longestOpen cX7_longestOpen 3 (some .int) 1 := ⟨lwm 959 (by decide +kernel), cd_X7_longestOpen, ini_X7, by decide +kernel, by decide +kernel⟩
set_option maxRecDepth 100000 in
theorem cw_L_108 : CWd RL 108 yX6_undo cX6_undo 1 (some .int) 0 := ⟨lwm 668 (by decide +kernel), cd_X6_undo, ini_X6, by decide +kernel, by decide +kernel⟩
set_option maxRecDepth 100000 in
theorem cw_L_111 : CWd RL 111 yX7_undo cX7_undo 2 (some .int) 0 := ⟨lwm 967 (by decide +kernel), cd_X7_undo, ini_X7, by decide +kernel, by decide +kernel⟩
set_option maxRecDepth 100000 in
theorem cw_L_12 : CWd RL 12 yX7_init cX7_init 1 none 0 := ⟨lwm 674 (by decide +kernel), cd_X7_init, ini_X7, by decide +kernel, by decide +kernel⟩
set_option maxRecDepth 100000 in
theorem cw_L_13 : CWd RL 13 yX6_addVan cX6_addVan 3 (some .int) 2 := ⟨lwm 290 (by decide +kernel), cd_X6_addVan, ini_X6, by decide +kernel, by decide +kernel⟩
set_option maxRecDepth 100000 in
theorem cw_L_17 : CWd RL 17 yX7_addVan cX7_addVan 5 (some .int) 2 := ⟨lwm 715 (by decide +kernel), cd_X7_addVan, ini_X7, by decide +kernel, by decide +kernel⟩
set_option maxRecDepth 100000 in
theorem cw_L_18 : CWd RL 18 yX6_setNumber cX6_setNumber 3 (some .int) 2 := ⟨lwm 345 (by decide +kernel), cd_X6_setNumber, ini_X6, by decide +kernel, by decide +kernel⟩
set_option maxRecDepth 100000 in
theorem cw_L_21 : CWd RL 21 yX7_setNumber cX7_setNumber 4 (some .int) 2 := ⟨lwm 741 (by decide +kernel), cd_X7_setNumber, ini_X7, by decide +kernel, by decide +kernel⟩
set_option maxRecDepth 100000 in
theorem cw_L_22 : CWd RL 22 yX6_setVan cX6_setVan 4 (some .int) 3 := ⟨lwm 354 (by decide +kernel), cd_X6_setVan, ini_X6, by decide +kernel, by decide +kernel⟩
set_option maxRecDepth 100000 in
theorem cw_L_26 : CWd RL 26 yX7_setVan cX7_setVan 5 (some .int) 3 := ⟨lwm 748 (by decide +kernel), cd_X7_setVan, ini_X7, by decide +kernel, by decide +kernel⟩
set_option maxRecDepth 100000 in
theorem cw_L_27 : CWd RL 27 yX6_setProbe cX6_setProbe 5 (some .int) 4 := ⟨lwm 366 (by decide +kernel), cd_X6_setProbe, ini_X6, by decide +kernel, by decide +kernel⟩
set_option maxRecDepth 100000 in
theorem cw_L_31 : CWd RL 31 yX7_setProbe cX7_setProbe 6 (some .int) 4 := ⟨lwm 760 (by decide +kernel), cd_X7_setProbe, ini_X7, by decide +kernel, by decide +kernel⟩
set_option maxRecDepth 100000 in
theorem cw_L_32 : CWd RL 32 yX6_repair cX6_repair 3 (some .int) 2 := ⟨lwm 381 (by decide +kernel), cd_X6_repair, ini_X6, by decide +kernel, by decide +kernel⟩
set_option maxRecDepth 100000 in
theorem cw_L_35 : CWd RL 35 yX7_repair cX7_repair 3 (some .int) 2 := ⟨lwm 774 (by decide +kernel), cd_X7_repair, ini_X7, by decide +kernel, by decide +kernel⟩
set_option maxRecDepth 100000 in
theorem cw_L_36 : CWd RL 36 yX6_loadPallet cX6_loadPallet 6 (some .int) 5 := ⟨lwm 390 (by decide +kernel), cd_X6_loadPallet, ini_X6, by decide +kernel, by decide +kernel⟩
set_option maxRecDepth 100000 in
theorem cw_L_40 : CWd RL 40 yX7_loadPallet cX7_loadPallet 9 (some .int) 5 := ⟨lwm 786 (by decide +kernel), cd_X7_loadPallet, ini_X7, by decide +kernel, by decide +kernel⟩
set_option maxRecDepth 100000 in
theorem cw_L_41 : CWd RL 41 yX6_door cX6_door 3 (some .int) 2 := ⟨lwm 417 (by decide +kernel), cd_X6_door, ini_X6, by decide +kernel, by decide +kernel⟩
set_option maxRecDepth 100000 in
theorem cw_L_44 : CWd RL 44 yX7_door cX7_door 3 (some .int) 2 := ⟨lwm 802 (by decide +kernel), cd_X7_door, ini_X7, by decide +kernel, by decide +kernel⟩
set_option maxRecDepth 100000 in
theorem cw_L_45 : CWd RL 45 yX6_pass cX6_pass 2 (some .int) 1 := ⟨lwm 435 (by decide +kernel), cd_X6_pass, ini_X6, by decide +kernel, by decide +kernel⟩
set_option maxRecDepth 100000 in
theorem cw_L_49 : CWd RL 49 yX7_pass cX7_pass 2 (some .int) 1 := ⟨lwm 817 (by decide +kernel), cd_X7_pass, ini_X7, by decide +kernel, by decide +kernel⟩
set_option maxRecDepth 100000 in
theorem cw_L_50 : CWd RL 50 yX6_deliver cX6_deliver 2 (some .int) 1 := ⟨lwm 499 (by decide +kernel), cd_X6_deliver, ini_X6, by decide +kernel, by decide +kernel⟩
set_option maxRecDepth 100000 in
theorem cw_L_53 : CWd RL 53 yX7_deliver cX7_deliver 2 (some .int) 1 := ⟨lwm 856 (by decide +kernel), cd_X7_deliver, ini_X7, by decide +kernel, by decide +kernel⟩
set_option maxRecDepth 100000 in
theorem cw_L_54 : CWd RL 54 yX6_detour cX6_detour 3 (some .int) 2 := ⟨lwm 515 (by decide +kernel), cd_X6_detour, ini_X6, by decide +kernel, by decide +kernel⟩
set_option maxRecDepth 100000 in
theorem cw_L_57 : CWd RL 57 yX7_detour cX7_detour 9 (some .int) 2 := ⟨lwm 868 (by decide +kernel), cd_X7_detour, ini_X7, by decide +kernel, by decide +kernel⟩
set_option maxRecDepth 100000 in
theorem cw_L_58 : CWd RL 58 yX6_appendCharacter cX6_appendCharacter 2 (some .int) 1 := ⟨lwm 535 (by decide +kernel), cd_X6_appendCharacter, ini_X6, by decide +kernel, by decide +kernel⟩
set_option maxRecDepth 100000 in
theorem cw_L_61 : CWd RL 61 yX7_appendCharacter cX7_appendCharacter 2 (some .int) 1 := ⟨lwm 872 (by decide +kernel), cd_X7_appendCharacter, ini_X7, by decide +kernel, by decide +kernel⟩
set_option maxRecDepth 100000 in
theorem cw_L_62 : CWd RL 62 yX6_clearText cX6_clearText 2 (some .int) 0 := ⟨lwm 546 (by decide +kernel), cd_X6_clearText, ini_X6, by decide +kernel, by decide +kernel⟩
set_option maxRecDepth 100000 in
theorem cw_L_66 : CWd RL 66 yX7_clearText cX7_clearText 2 (some .int) 0 := ⟨lwm 876 (by decide +kernel), cd_X7_clearText, ini_X7, by decide +kernel, by decide +kernel⟩
set_option maxRecDepth 100000 in
theorem cw_L_67 : CWd RL 67 yX6_runScript cX6_runScript 4 (some .int) 0 := ⟨lwm 550 (by decide +kernel), cd_X6_runScript, ini_X6, by decide +kernel, by decide +kernel⟩
set_option maxRecDepth 100000 in
theorem cw_L_70 : CWd RL 70 yX7_runScript cX7_runScript 2 (some .int) 0 := ⟨lwm 880 (by decide +kernel), cd_X7_runScript, ini_X7, by decide +kernel, by decide +kernel⟩
set_option maxRecDepth 100000 in
theorem cw_L_71 : CWd RL 71 yX6_count cX6_count 2 (some .int) 1 := ⟨lwm 586 (by decide +kernel), cd_X6_count, ini_X6, by decide +kernel, by decide +kernel⟩
set_option maxRecDepth 100000 in
theorem cw_L_74 : CWd RL 74 yX7_count cX7_count 4 (some .int) 1 := ⟨lwm 914 (by decide +kernel), cd_X7_count, ini_X7, by decide +kernel, by decide +kernel⟩
set_option maxRecDepth 100000 in
theorem cw_L_75 : CWd RL 75 yX6_van cX6_van 4 (some .int) 2 := ⟨lwm 594 (by decide +kernel), cd_X6_van, ini_X6, by decide +kernel, by decide +kernel⟩
set_option maxRecDepth 100000 in
theorem cw_L_78 : CWd RL 78 yX7_van cX7_van 3 (some .int) 2 := ⟨lwm 918 (by decide +kernel), cd_X7_van, ini_X7, by decide +kernel, by decide +kernel⟩
set_option maxRecDepth 100000 in
theorem cw_L_79 : CWd RL 79 yX6_zone cX6_zone 5 (some .int) 3 := ⟨lwm 600 (by decide +kernel), cd_X6_zone, ini_X6, by decide +kernel, by decide +kernel⟩
set_option maxRecDepth 100000 in
theorem cw_L_82 : CWd RL 82 yX7_zone cX7_zone 4 (some .int) 3 := ⟨lwm 922 (by decide +kernel), cd_X7_zone, ini_X7, by decide +kernel, by decide +kernel⟩
set_option maxRecDepth 100000 in
theorem cw_L_83 : CWd RL 83 yX6_pallet cX6_pallet 3 (some .int) 2 := ⟨lwm 607 (by decide +kernel), cd_X6_pallet, ini_X6, by decide +kernel, by decide +kernel⟩
set_option maxRecDepth 100000 in
theorem cw_L_86 : CWd RL 86 yX7_pallet cX7_pallet 3 (some .int) 2 := ⟨lwm 926 (by decide +kernel), cd_X7_pallet, ini_X7, by decide +kernel, by decide +kernel⟩
set_option maxRecDepth 100000 in
theorem cw_L_87 : CWd RL 87 yX6_claims cX6_claims 5 (some .int) 1 := ⟨lwm 625 (by decide +kernel), cd_X6_claims, ini_X6, by decide +kernel, by decide +kernel⟩
set_option maxRecDepth 100000 in
theorem cw_L_9 : CWd RL 9 yX6_init cX6_init 2 none 0 := ⟨lwm 57 (by decide +kernel), cd_X6_init, ini_X6, by decide +kernel, by decide +kernel⟩
set_option maxRecDepth 100000 in
theorem cw_L_90 : CWd RL 90 yX7_claims cX7_claims 4 (some .int) 1 := ⟨lwm 934 (by decide +kernel), cd_X7_claims, ini_X7, by decide +kernel, by decide +kernel⟩
set_option maxRecDepth 100000 in
theorem cw_L_91 : CWd RL 91 yX6_log cX6_log 5 (some .int) 4 := ⟨lwm 638 (by decide +kernel), cd_X6_log, ini_X6, by decide +kernel, by decide +kernel⟩
set_option maxRecDepth 100000 in
theorem cw_L_94 : CWd RL 94 yX7_log cX7_log 5 (some .int) 4 := ⟨lwm 942 (by decide +kernel), cd_X7_log, ini_X7, by decide +kernel, by decide +kernel⟩
set_option maxRecDepth 100000 in
theorem cw_L_95 : CWd RL 95 yX6_warm cX6_warm 11 (some .int) 6 := ⟨lwm 644 (by decide +kernel), cd_X6_warm, ini_X6, by decide +kernel, by decide +kernel⟩
set_option maxRecDepth 100000 in
theorem cw_L_99 : CWd RL 99 yX7_warm cX7_warm 11 (some .int) 6 := ⟨lwm 951 (by decide +kernel), cd_X7_warm, ini_X7, by decide +kernel, by decide +kernel⟩
set_option maxRecDepth 100000 in
theorem cw_X0_19 : CWd RX0 19 yX0_row cX0_row 5 (some (.array .int)) 3 := ⟨lwm 494 (by decide +kernel), cd_X0_row, ini_X0, by decide +kernel, by decide +kernel⟩
set_option maxRecDepth 100000 in
theorem cw_X0_35 : CWd RX0 35 yX4_toldIn cX4_toldIn 4 (some .int) 1 := ⟨lwm 498 (by decide +kernel), cd_X4_toldIn, ini_X4, by decide +kernel, by decide +kernel⟩
set_option maxRecDepth 100000 in
theorem cw_X1_57 : CWd RX1 57 yX4_toldIn cX4_toldIn 4 (some .int) 1 := ⟨lwm 483 (by decide +kernel), cd_X4_toldIn, ini_X4, by decide +kernel, by decide +kernel⟩
set_option maxRecDepth 100000 in
theorem cw_X1_61 : CWd RX1 61 yX1_wasRejected cX1_wasRejected 1 (some .boolean) 0 := ⟨lwm 620 (by decide +kernel), cd_X1_wasRejected, ini_X1, by decide +kernel, by decide +kernel⟩
set_option maxRecDepth 100000 in
theorem cw_X1_65 : CWd RX1 65 yX1_cause cX1_cause 1 (some .int) 0 := ⟨lwm 616 (by decide +kernel), cd_X1_cause, ini_X1, by decide +kernel, by decide +kernel⟩
set_option maxRecDepth 100000 in
theorem cw_X1_69 : CWd RX1 69 yX1_claim cX1_claim 1 (some .int) 0 := ⟨lwm 637 (by decide +kernel), cd_X1_claim, ini_X1, by decide +kernel, by decide +kernel⟩
set_option maxRecDepth 100000 in
theorem cw_X2_25 : CWdN RX2 25 yX6_isWithin cX6_isWithin 3 (some .boolean) 3 := ⟨lwm 543 (by decide +kernel), cd_X6_isWithin, ini_X6, by decide +kernel, by decide +kernel⟩
set_option maxRecDepth 100000 in
theorem cw_X2_41 : CWd RX2 41 yX2_skipSpaces cX2_skipSpaces 1 none 0 := ⟨lwm 558 (by decide +kernel), cd_X2_skipSpaces, ini_X2, by decide +kernel, by decide +kernel⟩
set_option maxRecDepth 100000 in
theorem cw_X2_44 : CWd RX2 44 yX2_readCommand cX2_readCommand 3 (some .boolean) 1 := ⟨lwm 562 (by decide +kernel), cd_X2_readCommand, ini_X2, by decide +kernel, by decide +kernel⟩
set_option maxRecDepth 100000 in
theorem cw_X2_48 : CWd RX2 48 yX2_isLetter cX2_isLetter 1 (some .boolean) 1 := ⟨lwm 566 (by decide +kernel), cd_X2_isLetter, ini_X2, by decide +kernel, by decide +kernel⟩
set_option maxRecDepth 100000 in
theorem cw_X2_52 : CWd RX2 52 yX2_readNumber cX2_readNumber 5 (some .int) 0 := ⟨lwm 569 (by decide +kernel), cd_X2_readNumber, ini_X2, by decide +kernel, by decide +kernel⟩
set_option maxRecDepth 100000 in
theorem cw_X2_56 : CWd RX2 56 yX2_readSign cX2_readSign 2 (some .boolean) 1 := ⟨lwm 576 (by decide +kernel), cd_X2_readSign, ini_X2, by decide +kernel, by decide +kernel⟩
set_option maxRecDepth 100000 in
theorem cw_X2_59 : CWd RX2 59 yX2_isDigit cX2_isDigit 1 (some .boolean) 1 := ⟨lwm 573 (by decide +kernel), cd_X2_isDigit, ini_X2, by decide +kernel, by decide +kernel⟩
set_option maxRecDepth 100000 in
theorem cw_X3_107 : CWd RX3 107 yX5_mend cX5_mend 1 none 0 := ⟨lwm 389 (by decide +kernel), cd_X5_mend, ini_X5, by decide +kernel, by decide +kernel⟩
set_option maxRecDepth 100000 in
theorem cw_X3_110 : CWdN RX3 110 yX6_isLimit cX6_isLimit 1 (some .boolean) 1 := ⟨lwm 398 (by decide +kernel), cd_X6_isLimit, ini_X6, by decide +kernel, by decide +kernel⟩
set_option maxRecDepth 100000 in
theorem cw_X3_113 : CWdN RX3 113 yX6_isPrice cX6_isPrice 1 (some .boolean) 1 := ⟨lwm 401 (by decide +kernel), cd_X6_isPrice, ini_X6, by decide +kernel, by decide +kernel⟩
set_option maxRecDepth 100000 in
theorem cw_X3_120 : CWd RX3 120 yX3_palletsInZone cX3_palletsInZone 5 (some .int) 2 := ⟨lwm 405 (by decide +kernel), cd_X3_palletsInZone, ini_X3, by decide +kernel, by decide +kernel⟩
set_option maxRecDepth 100000 in
theorem cw_X3_124 : CWd RX3 124 yX1_start cX1_start 6 none 5 := ⟨lwm 413 (by decide +kernel), cd_X1_start, ini_X1, by decide +kernel, by decide +kernel⟩
set_option maxRecDepth 100000 in
theorem cw_X3_127 : CWd RX3 127 yX3_palletsIn cX3_palletsIn 4 (some .int) 1 := ⟨lwm 425 (by decide +kernel), cd_X3_palletsIn, ini_X3, by decide +kernel, by decide +kernel⟩
set_option maxRecDepth 100000 in
theorem cw_X3_131 : CWd RX3 131 yJ6_bitCount_0f7a4 cJ6_bitCount_0f7a4 1 (some .int) 1 := ⟨lwm 429 (by decide +kernel), cd_J6_bitCount_0f7a4, ini_J6, by decide +kernel, by decide +kernel⟩
set_option maxRecDepth 100000 in
theorem cw_X3_136 : CWd RX3 136 yX3_minuteInVan cX3_minuteInVan 5 (some .int) 1 := ⟨lwm 443 (by decide +kernel), cd_X3_minuteInVan, ini_X3, by decide +kernel, by decide +kernel⟩
set_option maxRecDepth 100000 in
theorem cw_X3_139 : CWd RX3 139 yX0_write cX0_write 5 none 3 := ⟨lwm 490 (by decide +kernel), cd_X0_write, ini_X0, by decide +kernel, by decide +kernel⟩
set_option maxRecDepth 100000 in
theorem cw_X3_145 : CWd RX3 145 yX4_changeTemperatures cX4_changeTemperatures 4 none 1 := ⟨lwm 447 (by decide +kernel), cd_X4_changeTemperatures, ini_X4, by decide +kernel, by decide +kernel⟩
set_option maxRecDepth 100000 in
theorem cw_X3_149 : CWd RX3 149 yX4_mixAir cX4_mixAir 3 none 0 := ⟨lwm 460 (by decide +kernel), cd_X4_mixAir, ini_X4, by decide +kernel, by decide +kernel⟩
set_option maxRecDepth 100000 in
theorem cw_X3_152 : CWd RX3 152 yX4_findProbes cX4_findProbes 6 (some .int) 2 := ⟨lwm 464 (by decide +kernel), cd_X4_findProbes, ini_X4, by decide +kernel, by decide +kernel⟩
set_option maxRecDepth 100000 in
theorem cw_X3_155 : CWd RX3 155 yX1_addMinute cX1_addMinute 2 none 1 := ⟨lwm 479 (by decide +kernel), cd_X1_addMinute, ini_X1, by decide +kernel, by decide +kernel⟩
set_option maxRecDepth 100000 in
theorem cw_X3_158 : CWd RX3 158 yX3_hasPallet cX3_hasPallet 2 (some .boolean) 1 := ⟨lwm 507 (by decide +kernel), cd_X3_hasPallet, ini_X3, by decide +kernel, by decide +kernel⟩
set_option maxRecDepth 100000 in
theorem cw_X3_167 : CWd RX3 167 yX3_isIn cX3_isIn 2 (some .boolean) 2 := ⟨lwm 523 (by decide +kernel), cd_X3_isIn, ini_X3, by decide +kernel, by decide +kernel⟩
set_option maxRecDepth 100000 in
theorem cw_X3_169 : CWd RX3 169 yX3_shareByValues cX3_shareByValues 6 none 2 := ⟨lwm 526 (by decide +kernel), cd_X3_shareByValues, ini_X3, by decide +kernel, by decide +kernel⟩
set_option maxRecDepth 100000 in
theorem cw_X3_173 : CWd RX3 173 yX3_shareRest cX3_shareRest 6 (some .int) 2 := ⟨lwm 530 (by decide +kernel), cd_X3_shareRest, ini_X3, by decide +kernel, by decide +kernel⟩
set_option maxRecDepth 100000 in
theorem cw_X3_180 : CWd RX3 180 yJ9_max_7cf53 cJ9_max_7cf53 2 (some .int) 2 := ⟨lwm 534 (by decide +kernel), cd_J9_max_7cf53, ini_J9, by decide +kernel, by decide +kernel⟩
set_option maxRecDepth 100000 in
theorem cw_X3_33 : CWd RX3 33 yX4_init cX4_init 2 none 0 := ⟨lwm 74 (by decide +kernel), cd_X4_init, ini_X4, by decide +kernel, by decide +kernel⟩
set_option maxRecDepth 100000 in
theorem cw_X3_34 : CWdN RX3 34 yX1_init cX1_init 1 none 0 := ⟨lwm 142 (by decide +kernel), cd_X1_init, ini_X1, by decide +kernel, by decide +kernel⟩
set_option maxRecDepth 100000 in
theorem cw_X3_44 : CWd RX3 44 yX4_copyFrom cX4_copyFrom 3 none 1 := ⟨lwm 302 (by decide +kernel), cd_X4_copyFrom, ini_X4, by decide +kernel, by decide +kernel⟩
set_option maxRecDepth 100000 in
theorem cw_X3_48 : CWd RX3 48 yX1_copyFrom cX1_copyFrom 2 none 1 := ⟨lwm 310 (by decide +kernel), cd_X1_copyFrom, ini_X1, by decide +kernel, by decide +kernel⟩
set_option maxRecDepth 100000 in
theorem cw_X3_51 : CWd RX3 51 yX3_hasVan cX3_hasVan 2 (some .boolean) 1 := ⟨lwm 362 (by decide +kernel), cd_X3_hasVan, ini_X3, by decide +kernel, by decide +kernel⟩
set_option maxRecDepth 100000 in
theorem cw_X3_55 : CWdN RX3 55 yX6_isWithin cX6_isWithin 3 (some .boolean) 3 := ⟨lwm 353 (by decide +kernel), cd_X6_isWithin, ini_X6, by decide +kernel, by decide +kernel⟩
set_option maxRecDepth 100000 in
theorem cw_X3_69 : CWd RX3 69 yX1_isIn cX1_isIn 2 (some .boolean) 1 := ⟨lwm 409 (by decide +kernel), cd_X1_isIn, ini_X1, by decide +kernel, by decide +kernel⟩
set_option maxRecDepth 100000 in
theorem cw_X3_75 : CWd RX3 75 yX1_isOverdue cX1_isOverdue 1 (some .boolean) 0 := ⟨lwm 511 (by decide +kernel), cd_X1_isOverdue, ini_X1, by decide +kernel, by decide +kernel⟩
set_option maxRecDepth 100000 in
theorem cw_X3_79 : CWdN RX3 79 yX6_isVanSetting cX6_isVanSetting 2 (some .boolean) 2 := ⟨lwm 318 (by decide +kernel), cd_X6_isVanSetting, ini_X6, by decide +kernel, by decide +kernel⟩
set_option maxRecDepth 100000 in
theorem cw_X3_85 : CWd RX3 85 yX4_start cX4_start 5 none 3 := ⟨lwm 326 (by decide +kernel), cd_X4_start, ini_X4, by decide +kernel, by decide +kernel⟩
set_option maxRecDepth 100000 in
theorem cw_X3_95 : CWd RX3 95 yX3_hasZone cX3_hasZone 3 (some .boolean) 2 := ⟨lwm 374 (by decide +kernel), cd_X3_hasZone, ini_X3, by decide +kernel, by decide +kernel⟩
set_option maxRecDepth 100000 in
theorem cw_X3_98 : CWdN RX3 98 yX6_isProbeSetting cX6_isProbeSetting 2 (some .boolean) 2 := ⟨lwm 378 (by decide +kernel), cd_X6_isProbeSetting, ini_X6, by decide +kernel, by decide +kernel⟩
set_option maxRecDepth 100000 in
theorem cw_X4_17 : CWdN RX4 17 yX5_init cX5_init 1 none 0 := ⟨lwm 81 (by decide +kernel), cd_X5_init, ini_X5, by decide +kernel, by decide +kernel⟩
set_option maxRecDepth 100000 in
theorem cw_X4_32 : CWd RX4 32 yX5_copyFrom cX5_copyFrom 2 none 1 := ⟨lwm 306 (by decide +kernel), cd_X5_copyFrom, ini_X5, by decide +kernel, by decide +kernel⟩
set_option maxRecDepth 100000 in
theorem cw_X4_36 : CWd RX4 36 yX5_mend cX5_mend 1 none 0 := ⟨lwm 330 (by decide +kernel), cd_X5_mend, ini_X5, by decide +kernel, by decide +kernel⟩
set_option maxRecDepth 100000 in
theorem cw_X4_46 : CWd RX4 46 yX5_coolTo cX5_coolTo 3 none 2 := ⟨lwm 453 (by decide +kernel), cd_X5_coolTo, ini_X5, by decide +kernel, by decide +kernel⟩
set_option maxRecDepth 100000 in
theorem cw_X4_50 : CWd RX4 50 yX4_isOdd cX4_isOdd 6 (some .boolean) 2 := ⟨lwm 468 (by decide +kernel), cd_X4_isOdd, ini_X4, by decide +kernel, by decide +kernel⟩
set_option maxRecDepth 100000 in
theorem cw_X4_60 : CWd RX4 60 yX5_reading cX5_reading 1 (some .int) 0 := ⟨lwm 472 (by decide +kernel), cd_X5_reading, ini_X5, by decide +kernel, by decide +kernel⟩
set_option maxRecDepth 100000 in
theorem cw_X4_64 : CWd RX4 64 yJ9_abs_0f7a4 cJ9_abs_0f7a4 1 (some .int) 1 := ⟨lwm 476 (by decide +kernel), cd_J9_abs_0f7a4, ini_J9, by decide +kernel, by decide +kernel⟩
set_option maxRecDepth 100000 in
theorem cw_X4_70 : CWd RX4 70 yJ9_floorDiv_7cf53 cJ9_floorDiv_7cf53 3 (some .int) 2 := ⟨lwm 487 (by decide +kernel), cd_J9_floorDiv_7cf53, ini_J9, by decide +kernel, by decide +kernel⟩
set_option maxRecDepth 100000 in
theorem cw_X5_28 : CWd RX5 28 yJ9_max_7cf53 cJ9_max_7cf53 2 (some .int) 2 := ⟨lwm 457 (by decide +kernel), cd_J9_max_7cf53, ini_J9, by decide +kernel, by decide +kernel⟩
set_option maxRecDepth 100000 in
theorem cw_X6_104 : CWd RX6 104 yX3_copyFrom cX3_copyFrom 3 none 1 := ⟨lwm 298 (by decide +kernel), cd_X3_copyFrom, ini_X3, by decide +kernel, by decide +kernel⟩
set_option maxRecDepth 100000 in
theorem cw_X6_130 : CWd RX6 130 yX3_foundProbes cX3_foundProbes 4 (some .int) 0 := ⟨lwm 590 (by decide +kernel), cd_X3_foundProbes, ini_X3, by decide +kernel, by decide +kernel⟩
set_option maxRecDepth 100000 in
theorem cw_X6_134 : CWd RX6 134 yX3_hasVan cX3_hasVan 2 (some .boolean) 1 := ⟨lwm 598 (by decide +kernel), cd_X3_hasVan, ini_X3, by decide +kernel, by decide +kernel⟩
set_option maxRecDepth 100000 in
theorem cw_X6_153 : CWd RX6 153 yX3_palletsIn cX3_palletsIn 4 (some .int) 1 := ⟨lwm 599 (by decide +kernel), cd_X3_palletsIn, ini_X3, by decide +kernel, by decide +kernel⟩
set_option maxRecDepth 100000 in
theorem cw_X6_156 : CWd RX6 156 yX3_hasZone cX3_hasZone 3 (some .boolean) 2 := ⟨lwm 604 (by decide +kernel), cd_X3_hasZone, ini_X3, by decide +kernel, by decide +kernel⟩
set_option maxRecDepth 100000 in
theorem cw_X6_169 : CWd RX6 169 yX5_reading cX5_reading 1 (some .int) 0 := ⟨lwm 605 (by decide +kernel), cd_X5_reading, ini_X5, by decide +kernel, by decide +kernel⟩
set_option maxRecDepth 100000 in
theorem cw_X6_172 : CWd RX6 172 yX4_toldIn cX4_toldIn 4 (some .int) 1 := ⟨lwm 606 (by decide +kernel), cd_X4_toldIn, ini_X4, by decide +kernel, by decide +kernel⟩
set_option maxRecDepth 100000 in
theorem cw_X6_184 : CWd RX6 184 yX3_hasPallet cX3_hasPallet 2 (some .boolean) 1 := ⟨lwm 611 (by decide +kernel), cd_X3_hasPallet, ini_X3, by decide +kernel, by decide +kernel⟩
set_option maxRecDepth 100000 in
theorem cw_X6_191 : CWd RX6 191 yX1_property cX1_property 2 (some .int) 1 := ⟨lwm 612 (by decide +kernel), cd_X1_property, ini_X1, by decide +kernel, by decide +kernel⟩
set_option maxRecDepth 100000 in
theorem cw_X6_196 : CWd RX6 196 yX6_isWithin cX6_isWithin 3 (some .boolean) 3 := ⟨lwm 321 (by decide +kernel), cd_X6_isWithin, ini_X6, by decide +kernel, by decide +kernel⟩
set_option maxRecDepth 100000 in
theorem cw_X6_200 : CWd RX6 200 yX1_claim cX1_claim 1 (some .int) 0 := ⟨lwm 629 (by decide +kernel), cd_X1_claim, ini_X1, by decide +kernel, by decide +kernel⟩
set_option maxRecDepth 100000 in
theorem cw_X6_203 : CWd RX6 203 yX1_claimBy cX1_claimBy 5 (some .int) 1 := ⟨lwm 633 (by decide +kernel), cd_X1_claimBy, ini_X1, by decide +kernel, by decide +kernel⟩
set_option maxRecDepth 100000 in
theorem cw_X6_210 : CWd RX6 210 yX0_row cX0_row 5 (some (.array .int)) 3 := ⟨lwm 643 (by decide +kernel), cd_X0_row, ini_X0, by decide +kernel, by decide +kernel⟩
set_option maxRecDepth 100000 in
theorem cw_X6_214 : CWd RX6 214 yX6_isLimit cX6_isLimit 1 (some .boolean) 1 := ⟨lwm 648 (by decide +kernel), cd_X6_isLimit, ini_X6, by decide +kernel, by decide +kernel⟩
set_option maxRecDepth 100000 in
theorem cw_X6_217 : CWd RX6 217 yJ9_min_7cf53 cJ9_min_7cf53 2 (some .int) 2 := ⟨lwm 342 (by decide +kernel), cd_J9_min_7cf53, ini_J9, by decide +kernel, by decide +kernel⟩
set_option maxRecDepth 100000 in
theorem cw_X6_226 : CWd RX6 226 yX1_isOverdue cX1_isOverdue 1 (some .boolean) 0 := ⟨lwm 654 (by decide +kernel), cd_X1_isOverdue, ini_X1, by decide +kernel, by decide +kernel⟩
set_option maxRecDepth 100000 in
theorem cw_X6_233 : CWd RX6 233 yX3_minuteInVan cX3_minuteInVan 5 (some .int) 1 := ⟨lwm 655 (by decide +kernel), cd_X3_minuteInVan, ini_X3, by decide +kernel, by decide +kernel⟩
set_option maxRecDepth 100000 in
theorem cw_X6_236 : CWd RX6 236 yX6_mayBeOpen cX6_mayBeOpen 4 (some .boolean) 2 := ⟨lwm 660 (by decide +kernel), cd_X6_mayBeOpen, ini_X6, by decide +kernel, by decide +kernel⟩
set_option maxRecDepth 100000 in
theorem cw_X6_249 : CWd RX6 249 yX3_hasOverdue cX3_hasOverdue 3 (some .boolean) 1 := ⟨lwm 664 (by decide +kernel), cd_X3_hasOverdue, ini_X3, by decide +kernel, by decide +kernel⟩
set_option maxRecDepth 100000 in
theorem cw_X6_25 : CWdN RX6 25 yX0_init cX0_init 1 none 0 := ⟨lwm 220 (by decide +kernel), cd_X0_init, ini_X0, by decide +kernel, by decide +kernel⟩
set_option maxRecDepth 100000 in
theorem cw_X6_32 : CWdN RX6 32 yX2_init cX2_init 1 none 0 := ⟨lwm 236 (by decide +kernel), cd_X2_init, ini_X2, by decide +kernel, by decide +kernel⟩
set_option maxRecDepth 100000 in
theorem cw_X6_37 : CWd RX6 37 yX6_noteState cX6_noteState 1 none 0 := ⟨lwm 294 (by decide +kernel), cd_X6_noteState, ini_X6, by decide +kernel, by decide +kernel⟩
set_option maxRecDepth 100000 in
theorem cw_X6_40 : CWd RX6 40 yX3_putVan cX3_putVan 4 (some .int) 2 := ⟨lwm 314 (by decide +kernel), cd_X3_putVan, ini_X3, by decide +kernel, by decide +kernel⟩
set_option maxRecDepth 100000 in
theorem cw_X6_44 : CWd RX6 44 yX6_kept cX6_kept 2 (some .int) 1 := ⟨lwm 334 (by decide +kernel), cd_X6_kept, ini_X6, by decide +kernel, by decide +kernel⟩
set_option maxRecDepth 100000 in
theorem cw_X6_48 : CWd RX6 48 yX3_changeNumber cX3_changeNumber 4 (some .int) 2 := ⟨lwm 349 (by decide +kernel), cd_X3_changeNumber, ini_X3, by decide +kernel, by decide +kernel⟩
set_option maxRecDepth 100000 in
theorem cw_X6_51 : CWd RX6 51 yX3_changeVan cX3_changeVan 5 (some .int) 3 := ⟨lwm 358 (by decide +kernel), cd_X3_changeVan, ini_X3, by decide +kernel, by decide +kernel⟩
set_option maxRecDepth 100000 in
theorem cw_X6_55 : CWd RX6 55 yX3_changeProbe cX3_changeProbe 7 (some .int) 4 := ⟨lwm 370 (by decide +kernel), cd_X3_changeProbe, ini_X3, by decide +kernel, by decide +kernel⟩
set_option maxRecDepth 100000 in
theorem cw_X6_59 : CWd RX6 59 yX3_mendProbe cX3_mendProbe 5 (some .int) 2 := ⟨lwm 385 (by decide +kernel), cd_X3_mendProbe, ini_X3, by decide +kernel, by decide +kernel⟩
set_option maxRecDepth 100000 in
theorem cw_X6_62 : CWd RX6 62 yX3_putPallet cX3_putPallet 7 (some .int) 5 := ⟨lwm 394 (by decide +kernel), cd_X3_putPallet, ini_X3, by decide +kernel, by decide +kernel⟩
set_option maxRecDepth 100000 in
theorem cw_X6_66 : CWd RX6 66 yX3_turnDoor cX3_turnDoor 4 (some .int) 2 := ⟨lwm 421 (by decide +kernel), cd_X3_turnDoor, ini_X3, by decide +kernel, by decide +kernel⟩
set_option maxRecDepth 100000 in
theorem cw_X6_69 : CWd RX6 69 yX3_letPass cX3_letPass 6 (some .int) 2 := ⟨lwm 439 (by decide +kernel), cd_X3_letPass, ini_X3, by decide +kernel, by decide +kernel⟩
set_option maxRecDepth 100000 in
theorem cw_X6_73 : CWd RX6 73 yX3_handOver cX3_handOver 3 (some .int) 1 := ⟨lwm 503 (by decide +kernel), cd_X3_handOver, ini_X3, by decide +kernel, by decide +kernel⟩
set_option maxRecDepth 100000 in
theorem cw_X6_76 : CWd RX6 76 yX3_bringBack cX3_bringBack 4 (some .int) 2 := ⟨lwm 519 (by decide +kernel), cd_X3_bringBack, ini_X3, by decide +kernel, by decide +kernel⟩
set_option maxRecDepth 100000 in
theorem cw_X6_79 : CWd RX6 79 yX2_append cX2_append 2 (some .int) 1 := ⟨lwm 539 (by decide +kernel), cd_X2_append, ini_X2, by decide +kernel, by decide +kernel⟩
set_option maxRecDepth 100000 in
theorem cw_X6_86 : CWd RX6 86 yX2_read cX2_read 1 (some .int) 0 := ⟨lwm 554 (by decide +kernel), cd_X2_read, ini_X2, by decide +kernel, by decide +kernel⟩
set_option maxRecDepth 100000 in
theorem cw_X6_9 : CWd RX6 9 yX3_init cX3_init 2 none 0 := ⟨lwm 65 (by decide +kernel), cd_X3_init, ini_X3, by decide +kernel, by decide +kernel⟩
set_option maxRecDepth 100000 in
theorem cw_X6_94 : CWd RX6 94 yX6_runCommand cX6_runCommand 3 (some .int) 1 := ⟨lwm 581 (by decide +kernel), cd_X6_runCommand, ini_X6, by decide +kernel, by decide +kernel⟩
set_option maxRecDepth 100000 in
theorem cw_X6_97 : CWd RX6 97 yX6_isError cX6_isError 1 (some .boolean) 1 := ⟨lwm 338 (by decide +kernel), cd_X6_isError, ini_X6, by decide +kernel, by decide +kernel⟩
set_option maxRecDepth 100000 in
theorem cw_X7_101 : CWd RX7 101 yX7_minute cX7_minute 5 (some .int) 0 := ⟨lwm 825 (by decide +kernel), cd_X7_minute, ini_X7, by decide +kernel, by decide +kernel⟩
set_option maxRecDepth 100000 in
theorem cw_X7_105 : CWd RX7 105 yX7_isPallet cX7_isPallet 2 (some .boolean) 1 := ⟨lwm 864 (by decide +kernel), cd_X7_isPallet, ini_X7, by decide +kernel, by decide +kernel⟩
set_option maxRecDepth 100000 in
theorem cw_X7_108 : CWd RX7 108 yX7_isZone cX7_isZone 1 (some .boolean) 1 := ⟨lwm 764 (by decide +kernel), cd_X7_isZone, ini_X7, by decide +kernel, by decide +kernel⟩
set_option maxRecDepth 100000 in
theorem cw_X7_111 : CWd RX7 111 yX7_ends cX7_ends 3 (some .int) 1 := ⟨lwm 737 (by decide +kernel), cd_X7_ends, ini_X7, by decide +kernel, by decide +kernel⟩
set_option maxRecDepth 100000 in
theorem cw_X7_114 : CWd RX7 114 yX7_isCold cX7_isCold 2 (some .boolean) 2 := ⟨lwm 719 (by decide +kernel), cd_X7_isCold, ini_X7, by decide +kernel, by decide +kernel⟩
set_option maxRecDepth 100000 in
theorem cw_X7_117 : CWd RX7 117 yX7_hold cX7_hold 1 none 0 := ⟨lwm 727 (by decide +kernel), cd_X7_hold, ini_X7, by decide +kernel, by decide +kernel⟩
set_option maxRecDepth 100000 in
theorem cw_X7_120 : CWd RX7 120 yX7_isNumber cX7_isNumber 2 (some .boolean) 2 := ⟨lwm 745 (by decide +kernel), cd_X7_isNumber, ini_X7, by decide +kernel, by decide +kernel⟩
set_option maxRecDepth 100000 in
theorem cw_X7_123 : CWd RX7 123 yX7_isMode cX7_isMode 2 (some .boolean) 2 := ⟨lwm 767 (by decide +kernel), cd_X7_isMode, ini_X7, by decide +kernel, by decide +kernel⟩
set_option maxRecDepth 100000 in
theorem cw_X7_126 : CWd RX7 126 yX7_repairs cX7_repairs 5 (some .int) 2 := ⟨lwm 778 (by decide +kernel), cd_X7_repairs, ini_X7, by decide +kernel, by decide +kernel⟩
set_option maxRecDepth 100000 in
theorem cw_X7_129 : CWd RX7 129 yX7_done cX7_done 2 (some .int) 1 := ⟨lwm 782 (by decide +kernel), cd_X7_done, ini_X7, by decide +kernel, by decide +kernel⟩
set_option maxRecDepth 100000 in
theorem cw_X7_132 : CWd RX7 132 yX7_manyIn cX7_manyIn 5 (some .int) 2 := ⟨lwm 791 (by decide +kernel), cd_X7_manyIn, ini_X7, by decide +kernel, by decide +kernel⟩
set_option maxRecDepth 100000 in
theorem cw_X7_135 : CWd RX7 135 yX7_doors cX7_doors 3 (some .int) 2 := ⟨lwm 806 (by decide +kernel), cd_X7_doors, ini_X7, by decide +kernel, by decide +kernel⟩
set_option maxRecDepth 100000 in
theorem cw_X7_138 : CWd RX7 138 yX7_passes cX7_passes 4 (some .int) 1 := ⟨lwm 821 (by decide +kernel), cd_X7_passes, ini_X7, by decide +kernel, by decide +kernel⟩
set_option maxRecDepth 100000 in
theorem cw_X7_141 : CWd RX7 141 yX7_delivers cX7_delivers 2 (some .int) 1 := ⟨lwm 860 (by decide +kernel), cd_X7_delivers, ini_X7, by decide +kernel, by decide +kernel⟩
set_option maxRecDepth 100000 in
theorem cw_X7_150 : CWd RX7 150 yX7_isAt cX7_isAt 3 (some .boolean) 2 := ⟨lwm 892 (by decide +kernel), cd_X7_isAt, ini_X7, by decide +kernel, by decide +kernel⟩
set_option maxRecDepth 100000 in
theorem cw_X7_153 : CWd RX7 153 yX7_skips cX7_skips 1 none 0 := ⟨lwm 888 (by decide +kernel), cd_X7_skips, ini_X7, by decide +kernel, by decide +kernel⟩
set_option maxRecDepth 100000 in
theorem cw_X7_159 : CWd RX7 159 yX7_isFigure cX7_isFigure 4 (some .boolean) 1 := ⟨lwm 900 (by decide +kernel), cd_X7_isFigure, ini_X7, by decide +kernel, by decide +kernel⟩
set_option maxRecDepth 100000 in
theorem cw_X7_162 : CWd RX7 162 yX7_takes cX7_takes 3 (some .boolean) 1 := ⟨lwm 904 (by decide +kernel), cd_X7_takes, ini_X7, by decide +kernel, by decide +kernel⟩
set_option maxRecDepth 100000 in
theorem cw_X7_165 : CWd RX7 165 yX7_isCommand cX7_isCommand 1 (some .boolean) 0 := ⟨lwm 896 (by decide +kernel), cd_X7_isCommand, ini_X7, by decide +kernel, by decide +kernel⟩
set_option maxRecDepth 100000 in
theorem cw_X7_169 : CWd RX7 169 yX7_isScript cX7_isScript 1 (some .boolean) 0 := ⟨lwm 884 (by decide +kernel), cd_X7_isScript, ini_X7, by decide +kernel, by decide +kernel⟩
set_option maxRecDepth 100000 in
theorem cw_X7_173 : CWd RX7 173 yX7_does cX7_does 1 (some .int) 0 := ⟨lwm 909 (by decide +kernel), cd_X7_does, ini_X7, by decide +kernel, by decide +kernel⟩
set_option maxRecDepth 100000 in
theorem cw_X7_177 : CWd RX7 177 yX7_cause cX7_cause 2 (some .int) 1 := ⟨lwm 930 (by decide +kernel), cd_X7_cause, ini_X7, by decide +kernel, by decide +kernel⟩
set_option maxRecDepth 100000 in
theorem cw_X7_180 : CWd RX7 180 yX7_claim cX7_claim 6 (some .int) 2 := ⟨lwm 938 (by decide +kernel), cd_X7_claim, ini_X7, by decide +kernel, by decide +kernel⟩
set_option maxRecDepth 100000 in
theorem cw_X7_184 : CWd RX7 184 yX7_entry cX7_entry 5 (some .int) 4 := ⟨lwm 946 (by decide +kernel), cd_X7_entry, ini_X7, by decide +kernel, by decide +kernel⟩
set_option maxRecDepth 100000 in
theorem cw_X7_188 : CWd RX7 188 yX7_mayBeOpen cX7_mayBeOpen 6 (some .boolean) 2 := ⟨lwm 963 (by decide +kernel), cd_X7_mayBeOpen, ini_X7, by decide +kernel, by decide +kernel⟩
set_option maxRecDepth 100000 in
theorem cw_X7_35 : CWd RX7 35 yX7_copies cX7_copies 3 none 2 := ⟨lwm 731 (by decide +kernel), cd_X7_copies, ini_X7, by decide +kernel, by decide +kernel⟩
set_option maxRecDepth 100000 in
theorem cw_X7_43 : CWd RX7 43 yX7_in cX7_in 3 (some .boolean) 3 := ⟨lwm 722 (by decide +kernel), cd_X7_in, ini_X7, by decide +kernel, by decide +kernel⟩
set_option maxRecDepth 100000 in
theorem cw_X7_47 : CWd RX7 47 yX7_zoneSpot cX7_zoneSpot 2 (some .int) 2 := ⟨lwm 734 (by decide +kernel), cd_X7_zoneSpot, ini_X7, by decide +kernel, by decide +kernel⟩
set_option maxRecDepth 100000 in
theorem cw_X7_51 : CWd RX7 51 yX7_palletSpot cX7_palletSpot 1 (some .int) 1 := ⟨lwm 799 (by decide +kernel), cd_X7_palletSpot, ini_X7, by decide +kernel, by decide +kernel⟩
set_option maxRecDepth 100000 in
theorem cw_X7_55 : CWd RX7 55 yX7_at cX7_at 4 (some .int) 3 := ⟨lwm 770 (by decide +kernel), cd_X7_at, ini_X7, by decide +kernel, by decide +kernel⟩
set_option maxRecDepth 100000 in
theorem cw_X7_59 : CWd RX7 59 yX7_reading cX7_reading 4 (some .int) 2 := ⟨lwm 841 (by decide +kernel), cd_X7_reading, ini_X7, by decide +kernel, by decide +kernel⟩
set_option maxRecDepth 100000 in
theorem cw_X7_62 : CWd RX7 62 yX7_apart cX7_apart 2 (some .int) 2 := ⟨lwm 845 (by decide +kernel), cd_X7_apart, ini_X7, by decide +kernel, by decide +kernel⟩
set_option maxRecDepth 100000 in
theorem cw_X7_65 : CWd RX7 65 yX7_of cX7_of 3 (some .int) 2 := ⟨lwm 756 (by decide +kernel), cd_X7_of, ini_X7, by decide +kernel, by decide +kernel⟩
set_option maxRecDepth 100000 in
theorem cw_X7_68 : CWd RX7 68 yX7_isOdd cX7_isOdd 6 (some .boolean) 2 := ⟨lwm 837 (by decide +kernel), cd_X7_isOdd, ini_X7, by decide +kernel, by decide +kernel⟩
set_option maxRecDepth 100000 in
theorem cw_X7_72 : CWd RX7 72 yX7_its cX7_its 3 (some .int) 2 := ⟨lwm 795 (by decide +kernel), cd_X7_its, ini_X7, by decide +kernel, by decide +kernel⟩
set_option maxRecDepth 100000 in
theorem cw_X7_75 : CWd RX7 75 yX7_told cX7_told 4 (some .int) 2 := ⟨lwm 852 (by decide +kernel), cd_X7_told, ini_X7, by decide +kernel, by decide +kernel⟩
set_option maxRecDepth 100000 in
theorem cw_X7_78 : CWd RX7 78 yX7_heats cX7_heats 7 none 1 := ⟨lwm 829 (by decide +kernel), cd_X7_heats, ini_X7, by decide +kernel, by decide +kernel⟩
set_option maxRecDepth 100000 in
theorem cw_X7_82 : CWd RX7 82 yX7_reads cX7_reads 5 (some .int) 1 := ⟨lwm 833 (by decide +kernel), cd_X7_reads, ini_X7, by decide +kernel, by decide +kernel⟩
set_option maxRecDepth 100000 in
theorem cw_X7_85 : CWd RX7 85 yX7_warms cX7_warms 5 none 1 := ⟨lwm 848 (by decide +kernel), cd_X7_warms, ini_X7, by decide +kernel, by decide +kernel⟩
set_option maxRecDepth 100000 in
theorem cw_X7_88 : CWd RX7 88 yX7_isVan cX7_isVan 2 (some .boolean) 1 := ⟨lwm 752 (by decide +kernel), cd_X7_isVan, ini_X7, by decide +kernel, by decide +kernel⟩
set_option maxRecDepth 100000 in
theorem cw_X7_94 : CWd RX7 94 yX7_inVan cX7_inVan 4 (some .int) 1 := ⟨lwm 810 (by decide +kernel), cd_X7_inVan, ini_X7, by decide +kernel, by decide +kernel⟩
set_option maxRecDepth 100000 in
theorem cw_X7_97 : CWd RX7 97 yX7_bits cX7_bits 3 (some .int) 1 := ⟨lwm 814 (by decide +kernel), cd_X7_bits, ini_X7, by decide +kernel, by decide +kernel⟩
set_option maxRecDepth 100000 in
theorem fn_X4_42 : Cond.fieldLinkNest RX4 42 "ColdChain" "WARMING" "[I" "ColdChain" ∈ lw_tbl := lwm 451 (by decide +kernel)
end
