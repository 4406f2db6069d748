section
-- ===== PART A: goes FIRST, ahead of the names: the tables' words, and 'selects' of the private methods out of them =====
/-- a private method of a class that the tables say can be made, by its rows of tables_1 -/
def lw_okq (q : MethodName × Nat) : Prop := (q.1.cls ≠ "java/lang/invoke/MethodHandle" ∧ q.1.cls ≠ "java/lang/invoke/VarHandle") ∧ Cond.instantiable q.1.cls q.2 ∈ tables_1 ∧ Cond.privateMethod q.1 ∈ tables_1 ∧ Cond.instanceMethod q.1 ∈ tables_1
theorem lw_p0 : lw_okq (⟨"ColdChain", "noteState", "()V"⟩, 7) := ⟨⟨by decide +kernel, by decide +kernel⟩, List.mem_of_getElem? (i := 12) (by decide +kernel), List.mem_of_getElem? (i := 251) (by decide +kernel), List.mem_of_getElem? (i := 252) (by decide +kernel)⟩
theorem lw_p1 : lw_okq (⟨"ColdChain", "kept", "(I)I"⟩, 7) := ⟨⟨by decide +kernel, by decide +kernel⟩, List.mem_of_getElem? (i := 12) (by decide +kernel), List.mem_of_getElem? (i := 291) (by decide +kernel), List.mem_of_getElem? (i := 292) (by decide +kernel)⟩
theorem lw_p2 : lw_okq (⟨"ColdChain$State", "palletsInZone", "(II)I"⟩, 8) := ⟨⟨by decide +kernel, by decide +kernel⟩, List.mem_of_getElem? (i := 20) (by decide +kernel), List.mem_of_getElem? (i := 362) (by decide +kernel), List.mem_of_getElem? (i := 363) (by decide +kernel)⟩
theorem lw_p3 : lw_okq (⟨"ColdChain$Van", "isOdd", "(II)Z"⟩, 5) := ⟨⟨by decide +kernel, by decide +kernel⟩, List.mem_of_getElem? (i := 29) (by decide +kernel), List.mem_of_getElem? (i := 425) (by decide +kernel), List.mem_of_getElem? (i := 426) (by decide +kernel)⟩
theorem lw_p4 : lw_okq (⟨"ColdChain$State", "shareByValues", "(II)V"⟩, 8) := ⟨⟨by decide +kernel, by decide +kernel⟩, List.mem_of_getElem? (i := 20) (by decide +kernel), List.mem_of_getElem? (i := 483) (by decide +kernel), List.mem_of_getElem? (i := 484) (by decide +kernel)⟩
theorem lw_p5 : lw_okq (⟨"ColdChain$State", "shareRest", "(II)I"⟩, 8) := ⟨⟨by decide +kernel, by decide +kernel⟩, List.mem_of_getElem? (i := 20) (by decide +kernel), List.mem_of_getElem? (i := 487) (by decide +kernel), List.mem_of_getElem? (i := 488) (by decide +kernel)⟩
theorem lw_p6 : lw_okq (⟨"ColdChain$Script", "skipSpaces", "()V"⟩, 7) := ⟨⟨by decide +kernel, by decide +kernel⟩, List.mem_of_getElem? (i := 191) (by decide +kernel), List.mem_of_getElem? (i := 515) (by decide +kernel), List.mem_of_getElem? (i := 516) (by decide +kernel)⟩
theorem lw_p7 : lw_okq (⟨"ColdChain$Script", "readCommand", "(I)Z"⟩, 7) := ⟨⟨by decide +kernel, by decide +kernel⟩, List.mem_of_getElem? (i := 191) (by decide +kernel), List.mem_of_getElem? (i := 519) (by decide +kernel), List.mem_of_getElem? (i := 520) (by decide +kernel)⟩
theorem lw_p8 : lw_okq (⟨"ColdChain$Script", "readNumber", "()I"⟩, 7) := ⟨⟨by decide +kernel, by decide +kernel⟩, List.mem_of_getElem? (i := 191) (by decide +kernel), List.mem_of_getElem? (i := 526) (by decide +kernel), List.mem_of_getElem? (i := 527) (by decide +kernel)⟩
theorem lw_p9 : lw_okq (⟨"ColdChain$Script", "readSign", "(C)Z"⟩, 7) := ⟨⟨by decide +kernel, by decide +kernel⟩, List.mem_of_getElem? (i := 191) (by decide +kernel), List.mem_of_getElem? (i := 533) (by decide +kernel), List.mem_of_getElem? (i := 534) (by decide +kernel)⟩
theorem lw_p10 : lw_okq (⟨"ColdChain", "runCommand", "(I)I"⟩, 7) := ⟨⟨by decide +kernel, by decide +kernel⟩, List.mem_of_getElem? (i := 12) (by decide +kernel), List.mem_of_getElem? (i := 538) (by decide +kernel), List.mem_of_getElem? (i := 539) (by decide +kernel)⟩
theorem lw_p11 : lw_okq (⟨"ColdChain", "mayBeOpen", "(II)Z"⟩, 7) := ⟨⟨by decide +kernel, by decide +kernel⟩, List.mem_of_getElem? (i := 12) (by decide +kernel), List.mem_of_getElem? (i := 617) (by decide +kernel), List.mem_of_getElem? (i := 618) (by decide +kernel)⟩
theorem lw_p12 : lw_okq (⟨"ColdChainModel", "hold", "()V"⟩, 12) := ⟨⟨by decide +kernel, by decide +kernel⟩, List.mem_of_getElem? (i := 629) (by decide +kernel), List.mem_of_getElem? (i := 684) (by decide +kernel), List.mem_of_getElem? (i := 685) (by decide +kernel)⟩
theorem lw_p13 : lw_okq (⟨"ColdChainModel", "ends", "(I)I"⟩, 12) := ⟨⟨by decide +kernel, by decide +kernel⟩, List.mem_of_getElem? (i := 629) (by decide +kernel), List.mem_of_getElem? (i := 694) (by decide +kernel), List.mem_of_getElem? (i := 695) (by decide +kernel)⟩
theorem lw_p14 : lw_okq (⟨"ColdChainModel", "isVan", "(I)Z"⟩, 12) := ⟨⟨by decide +kernel, by decide +kernel⟩, List.mem_of_getElem? (i := 629) (by decide +kernel), List.mem_of_getElem? (i := 709) (by decide +kernel), List.mem_of_getElem? (i := 710) (by decide +kernel)⟩
theorem lw_p15 : lw_okq (⟨"ColdChainModel", "of", "(II)I"⟩, 12) := ⟨⟨by decide +kernel, by decide +kernel⟩, List.mem_of_getElem? (i := 629) (by decide +kernel), List.mem_of_getElem? (i := 713) (by decide +kernel), List.mem_of_getElem? (i := 714) (by decide +kernel)⟩
def lw_privs_1 : List (MethodName × Nat) := [(⟨"ColdChain", "noteState", "()V"⟩, 7), (⟨"ColdChain", "kept", "(I)I"⟩, 7), (⟨"ColdChain$State", "palletsInZone", "(II)I"⟩, 8), (⟨"ColdChain$Van", "isOdd", "(II)Z"⟩, 5), (⟨"ColdChain$State", "shareByValues", "(II)V"⟩, 8), (⟨"ColdChain$State", "shareRest", "(II)I"⟩, 8), (⟨"ColdChain$Script", "skipSpaces", "()V"⟩, 7), (⟨"ColdChain$Script", "readCommand", "(I)Z"⟩, 7), (⟨"ColdChain$Script", "readNumber", "()I"⟩, 7), (⟨"ColdChain$Script", "readSign", "(C)Z"⟩, 7), (⟨"ColdChain", "runCommand", "(I)I"⟩, 7), (⟨"ColdChain", "mayBeOpen", "(II)Z"⟩, 7), (⟨"ColdChainModel", "hold", "()V"⟩, 12), (⟨"ColdChainModel", "ends", "(I)I"⟩, 12), (⟨"ColdChainModel", "isVan", "(I)Z"⟩, 12), (⟨"ColdChainModel", "of", "(II)I"⟩, 12)]
theorem lw_r1 : ∀ q ∈ lw_privs_1, lw_okq q := List.forall_mem_cons.mpr ⟨lw_p0, List.forall_mem_cons.mpr ⟨lw_p1, List.forall_mem_cons.mpr ⟨lw_p2, List.forall_mem_cons.mpr ⟨lw_p3, List.forall_mem_cons.mpr ⟨lw_p4, List.forall_mem_cons.mpr ⟨lw_p5, List.forall_mem_cons.mpr ⟨lw_p6, List.forall_mem_cons.mpr ⟨lw_p7, List.forall_mem_cons.mpr ⟨lw_p8, List.forall_mem_cons.mpr ⟨lw_p9, List.forall_mem_cons.mpr ⟨lw_p10, List.forall_mem_cons.mpr ⟨lw_p11, List.forall_mem_cons.mpr ⟨lw_p12, List.forall_mem_cons.mpr ⟨lw_p13, List.forall_mem_cons.mpr ⟨lw_p14, List.forall_mem_cons.mpr ⟨lw_p15, fun _ h => absurd h List.not_mem_nil⟩⟩⟩⟩⟩⟩⟩⟩⟩⟩⟩⟩⟩⟩⟩⟩
theorem lw_p16 : lw_okq (⟨"ColdChainModel", "at", "(III)I"⟩, 12) := ⟨⟨by decide +kernel, by decide +kernel⟩, List.mem_of_getElem? (i := 629) (by decide +kernel), List.mem_of_getElem? (i := 727) (by decide +kernel), List.mem_of_getElem? (i := 728) (by decide +kernel)⟩
theorem lw_p17 : lw_okq (⟨"ColdChainModel", "repairs", "(II)I"⟩, 12) := ⟨⟨by decide +kernel, by decide +kernel⟩, List.mem_of_getElem? (i := 629) (by decide +kernel), List.mem_of_getElem? (i := 735) (by decide +kernel), List.mem_of_getElem? (i := 736) (by decide +kernel)⟩
theorem lw_p18 : lw_okq (⟨"ColdChainModel", "done", "(I)I"⟩, 12) := ⟨⟨by decide +kernel, by decide +kernel⟩, List.mem_of_getElem? (i := 629) (by decide +kernel), List.mem_of_getElem? (i := 739) (by decide +kernel), List.mem_of_getElem? (i := 740) (by decide +kernel)⟩
theorem lw_p19 : lw_okq (⟨"ColdChainModel", "manyIn", "(II)I"⟩, 12) := ⟨⟨by decide +kernel, by decide +kernel⟩, List.mem_of_getElem? (i := 629) (by decide +kernel), List.mem_of_getElem? (i := 748) (by decide +kernel), List.mem_of_getElem? (i := 749) (by decide +kernel)⟩
theorem lw_p20 : lw_okq (⟨"ColdChainModel", "its", "(II)I"⟩, 12) := ⟨⟨by decide +kernel, by decide +kernel⟩, List.mem_of_getElem? (i := 629) (by decide +kernel), List.mem_of_getElem? (i := 752) (by decide +kernel), List.mem_of_getElem? (i := 753) (by decide +kernel)⟩
theorem lw_p21 : lw_okq (⟨"ColdChainModel", "doors", "(II)I"⟩, 12) := ⟨⟨by decide +kernel, by decide +kernel⟩, List.mem_of_getElem? (i := 629) (by decide +kernel), List.mem_of_getElem? (i := 763) (by decide +kernel), List.mem_of_getElem? (i := 764) (by decide +kernel)⟩
theorem lw_p22 : lw_okq (⟨"ColdChainModel", "inVan", "(I)I"⟩, 12) := ⟨⟨by decide +kernel, by decide +kernel⟩, List.mem_of_getElem? (i := 629) (by decide +kernel), List.mem_of_getElem? (i := 767) (by decide +kernel), List.mem_of_getElem? (i := 768) (by decide +kernel)⟩
theorem lw_p23 : lw_okq (⟨"ColdChainModel", "passes", "(I)I"⟩, 12) := ⟨⟨by decide +kernel, by decide +kernel⟩, List.mem_of_getElem? (i := 629) (by decide +kernel), List.mem_of_getElem? (i := 778) (by decide +kernel), List.mem_of_getElem? (i := 779) (by decide +kernel)⟩
theorem lw_p24 : lw_okq (⟨"ColdChainModel", "minute", "()I"⟩, 12) := ⟨⟨by decide +kernel, by decide +kernel⟩, List.mem_of_getElem? (i := 629) (by decide +kernel), List.mem_of_getElem? (i := 782) (by decide +kernel), List.mem_of_getElem? (i := 783) (by decide +kernel)⟩
theorem lw_p25 : lw_okq (⟨"ColdChainModel", "heats", "(I)V"⟩, 12) := ⟨⟨by decide +kernel, by decide +kernel⟩, List.mem_of_getElem? (i := 629) (by decide +kernel), List.mem_of_getElem? (i := 786) (by decide +kernel), List.mem_of_getElem? (i := 787) (by decide +kernel)⟩
theorem lw_p26 : lw_okq (⟨"ColdChainModel", "reads", "(I)I"⟩, 12) := ⟨⟨by decide +kernel, by decide +kernel⟩, List.mem_of_getElem? (i := 629) (by decide +kernel), List.mem_of_getElem? (i := 790) (by decide +kernel), List.mem_of_getElem? (i := 791) (by decide +kernel)⟩
theorem lw_p27 : lw_okq (⟨"ColdChainModel", "isOdd", "(II)Z"⟩, 12) := ⟨⟨by decide +kernel, by decide +kernel⟩, List.mem_of_getElem? (i := 629) (by decide +kernel), List.mem_of_getElem? (i := 794) (by decide +kernel), List.mem_of_getElem? (i := 795) (by decide +kernel)⟩
theorem lw_p28 : lw_okq (⟨"ColdChainModel", "reading", "(II)I"⟩, 12) := ⟨⟨by decide +kernel, by decide +kernel⟩, List.mem_of_getElem? (i := 629) (by decide +kernel), List.mem_of_getElem? (i := 798) (by decide +kernel), List.mem_of_getElem? (i := 799) (by decide +kernel)⟩
theorem lw_p29 : lw_okq (⟨"ColdChainModel", "warms", "(I)V"⟩, 12) := ⟨⟨by decide +kernel, by decide +kernel⟩, List.mem_of_getElem? (i := 629) (by decide +kernel), List.mem_of_getElem? (i := 805) (by decide +kernel), List.mem_of_getElem? (i := 806) (by decide +kernel)⟩
theorem lw_p30 : lw_okq (⟨"ColdChainModel", "told", "(II)I"⟩, 12) := ⟨⟨by decide +kernel, by decide +kernel⟩, List.mem_of_getElem? (i := 629) (by decide +kernel), List.mem_of_getElem? (i := 809) (by decide +kernel), List.mem_of_getElem? (i := 810) (by decide +kernel)⟩
theorem lw_p31 : lw_okq (⟨"ColdChainModel", "delivers", "(I)I"⟩, 12) := ⟨⟨by decide +kernel, by decide +kernel⟩, List.mem_of_getElem? (i := 629) (by decide +kernel), List.mem_of_getElem? (i := 817) (by decide +kernel), List.mem_of_getElem? (i := 818) (by decide +kernel)⟩
def lw_privs_2 : List (MethodName × Nat) := [(⟨"ColdChainModel", "at", "(III)I"⟩, 12), (⟨"ColdChainModel", "repairs", "(II)I"⟩, 12), (⟨"ColdChainModel", "done", "(I)I"⟩, 12), (⟨"ColdChainModel", "manyIn", "(II)I"⟩, 12), (⟨"ColdChainModel", "its", "(II)I"⟩, 12), (⟨"ColdChainModel", "doors", "(II)I"⟩, 12), (⟨"ColdChainModel", "inVan", "(I)I"⟩, 12), (⟨"ColdChainModel", "passes", "(I)I"⟩, 12), (⟨"ColdChainModel", "minute", "()I"⟩, 12), (⟨"ColdChainModel", "heats", "(I)V"⟩, 12), (⟨"ColdChainModel", "reads", "(I)I"⟩, 12), (⟨"ColdChainModel", "isOdd", "(II)Z"⟩, 12), (⟨"ColdChainModel", "reading", "(II)I"⟩, 12), (⟨"ColdChainModel", "warms", "(I)V"⟩, 12), (⟨"ColdChainModel", "told", "(II)I"⟩, 12), (⟨"ColdChainModel", "delivers", "(I)I"⟩, 12)]
theorem lw_r2 : ∀ q ∈ lw_privs_2, lw_okq q := List.forall_mem_cons.mpr ⟨lw_p16, List.forall_mem_cons.mpr ⟨lw_p17, List.forall_mem_cons.mpr ⟨lw_p18, List.forall_mem_cons.mpr ⟨lw_p19, List.forall_mem_cons.mpr ⟨lw_p20, List.forall_mem_cons.mpr ⟨lw_p21, List.forall_mem_cons.mpr ⟨lw_p22, List.forall_mem_cons.mpr ⟨lw_p23, List.forall_mem_cons.mpr ⟨lw_p24, List.forall_mem_cons.mpr ⟨lw_p25, List.forall_mem_cons.mpr ⟨lw_p26, List.forall_mem_cons.mpr ⟨lw_p27, List.forall_mem_cons.mpr ⟨lw_p28, List.forall_mem_cons.mpr ⟨lw_p29, List.forall_mem_cons.mpr ⟨lw_p30, List.forall_mem_cons.mpr ⟨lw_p31, fun _ h => absurd h List.not_mem_nil⟩⟩⟩⟩⟩⟩⟩⟩⟩⟩⟩⟩⟩⟩⟩⟩
theorem lw_p32 : lw_okq (⟨"ColdChainModel", "isPallet", "(I)Z"⟩, 12) := ⟨⟨by decide +kernel, by decide +kernel⟩, List.mem_of_getElem? (i := 629) (by decide +kernel), List.mem_of_getElem? (i := 821) (by decide +kernel), List.mem_of_getElem? (i := 822) (by decide +kernel)⟩
theorem lw_p33 : lw_okq (⟨"ColdChainModel", "isScript", "()Z"⟩, 12) := ⟨⟨by decide +kernel, by decide +kernel⟩, List.mem_of_getElem? (i := 629) (by decide +kernel), List.mem_of_getElem? (i := 841) (by decide +kernel), List.mem_of_getElem? (i := 842) (by decide +kernel)⟩
theorem lw_p34 : lw_okq (⟨"ColdChainModel", "skips", "()V"⟩, 12) := ⟨⟨by decide +kernel, by decide +kernel⟩, List.mem_of_getElem? (i := 629) (by decide +kernel), List.mem_of_getElem? (i := 845) (by decide +kernel), List.mem_of_getElem? (i := 846) (by decide +kernel)⟩
theorem lw_p35 : lw_okq (⟨"ColdChainModel", "isAt", "(II)Z"⟩, 12) := ⟨⟨by decide +kernel, by decide +kernel⟩, List.mem_of_getElem? (i := 629) (by decide +kernel), List.mem_of_getElem? (i := 849) (by decide +kernel), List.mem_of_getElem? (i := 850) (by decide +kernel)⟩
theorem lw_p36 : lw_okq (⟨"ColdChainModel", "isCommand", "()Z"⟩, 12) := ⟨⟨by decide +kernel, by decide +kernel⟩, List.mem_of_getElem? (i := 629) (by decide +kernel), List.mem_of_getElem? (i := 853) (by decide +kernel), List.mem_of_getElem? (i := 854) (by decide +kernel)⟩
theorem lw_p37 : lw_okq (⟨"ColdChainModel", "isFigure", "(I)Z"⟩, 12) := ⟨⟨by decide +kernel, by decide +kernel⟩, List.mem_of_getElem? (i := 629) (by decide +kernel), List.mem_of_getElem? (i := 857) (by decide +kernel), List.mem_of_getElem? (i := 858) (by decide +kernel)⟩
theorem lw_p38 : lw_okq (⟨"ColdChainModel", "takes", "(I)Z"⟩, 12) := ⟨⟨by decide +kernel, by decide +kernel⟩, List.mem_of_getElem? (i := 629) (by decide +kernel), List.mem_of_getElem? (i := 861) (by decide +kernel), List.mem_of_getElem? (i := 862) (by decide +kernel)⟩
theorem lw_p39 : lw_okq (⟨"ColdChainModel", "does", "()I"⟩, 12) := ⟨⟨by decide +kernel, by decide +kernel⟩, List.mem_of_getElem? (i := 629) (by decide +kernel), List.mem_of_getElem? (i := 866) (by decide +kernel), List.mem_of_getElem? (i := 867) (by decide +kernel)⟩
theorem lw_p40 : lw_okq (⟨"ColdChainModel", "cause", "(I)I"⟩, 12) := ⟨⟨by decide +kernel, by decide +kernel⟩, List.mem_of_getElem? (i := 629) (by decide +kernel), List.mem_of_getElem? (i := 887) (by decide +kernel), List.mem_of_getElem? (i := 888) (by decide +kernel)⟩
theorem lw_p41 : lw_okq (⟨"ColdChainModel", "claim", "(II)I"⟩, 12) := ⟨⟨by decide +kernel, by decide +kernel⟩, List.mem_of_getElem? (i := 629) (by decide +kernel), List.mem_of_getElem? (i := 895) (by decide +kernel), List.mem_of_getElem? (i := 896) (by decide +kernel)⟩
theorem lw_p42 : lw_okq (⟨"ColdChainModel", "entry", "(IIII)I"⟩, 12) := ⟨⟨by decide +kernel, by decide +kernel⟩, List.mem_of_getElem? (i := 629) (by decide +kernel), List.mem_of_getElem? (i := 903) (by decide +kernel), List.mem_of_getElem? (i := 904) (by decide +kernel)⟩
theorem lw_p43 : lw_okq (⟨"ColdChainModel", "mayBeOpen", "(II)Z"⟩, 12) := ⟨⟨by decide +kernel, by decide +kernel⟩, List.mem_of_getElem? (i := 629) (by decide +kernel), List.mem_of_getElem? (i := 920) (by decide +kernel), List.mem_of_getElem? (i := 921) (by decide +kernel)⟩
def lw_privs_3 : List (MethodName × Nat) := [(⟨"ColdChainModel", "isPallet", "(I)Z"⟩, 12), (⟨"ColdChainModel", "isScript", "()Z"⟩, 12), (⟨"ColdChainModel", "skips", "()V"⟩, 12), (⟨"ColdChainModel", "isAt", "(II)Z"⟩, 12), (⟨"ColdChainModel", "isCommand", "()Z"⟩, 12), (⟨"ColdChainModel", "isFigure", "(I)Z"⟩, 12), (⟨"ColdChainModel", "takes", "(I)Z"⟩, 12), (⟨"ColdChainModel", "does", "()I"⟩, 12), (⟨"ColdChainModel", "cause", "(I)I"⟩, 12), (⟨"ColdChainModel", "claim", "(II)I"⟩, 12), (⟨"ColdChainModel", "entry", "(IIII)I"⟩, 12), (⟨"ColdChainModel", "mayBeOpen", "(II)Z"⟩, 12)]
theorem lw_r3 : ∀ q ∈ lw_privs_3, lw_okq q := List.forall_mem_cons.mpr ⟨lw_p32, List.forall_mem_cons.mpr ⟨lw_p33, List.forall_mem_cons.mpr ⟨lw_p34, List.forall_mem_cons.mpr ⟨lw_p35, List.forall_mem_cons.mpr ⟨lw_p36, List.forall_mem_cons.mpr ⟨lw_p37, List.forall_mem_cons.mpr ⟨lw_p38, List.forall_mem_cons.mpr ⟨lw_p39, List.forall_mem_cons.mpr ⟨lw_p40, List.forall_mem_cons.mpr ⟨lw_p41, List.forall_mem_cons.mpr ⟨lw_p42, List.forall_mem_cons.mpr ⟨lw_p43, fun _ h => absurd h List.not_mem_nil⟩⟩⟩⟩⟩⟩⟩⟩⟩⟩⟩⟩
def lw_privs : List (MethodName × Nat) := lw_privs_1 ++ (lw_privs_2 ++ (lw_privs_3))
def lw_tbl : List Cond := k2_sels lw_privs ++ tables_1
theorem lw_privs_ok : ∀ q ∈ lw_privs, lw_okq q := by
  show ∀ q ∈ lw_privs_1 ++ (lw_privs_2 ++ (lw_privs_3)), lw_okq q
  exact List.forall_mem_append.mpr ⟨lw_r1, List.forall_mem_append.mpr ⟨lw_r2, lw_r3⟩⟩
/-- words that hold in every warmer state -/
def wOK : Cond → Bool
  | .fieldLinkNest .. => true
  | .methodLinkNest .. => true
  | .arrayOver (.object _) => true
  | .arrayOver (.array _) => true
  | w => goodWord w
def RX0 : String := "ColdChain$History"
def TX0 : u_T := fun k => match k with
  | 0 => ("ColdChain$History", "temperatures", "[[I", true)
  | _ => ("ColdChain$History", "toldOnes", "[[I", true)
def tyX0 : Nat → FieldType := fun k => match k with
  | 0 => .array (.array .int)
  | _ => .array (.array .int)
abbrev wsX00 : List Cond := u_ws RX0 TX0 2
set_option maxRecDepth 100000 in
theorem inX0 : ∀ w ∈ u_ws RX0 TX0 2, w ∈ lw_tbl := by decide +kernel
theorem nmX0 : ∀ a, a < 2 → ∀ b, b < 2 → a ≠ b → (TX0 a).2.1 ≠ (TX0 b).2.1 := by decide +kernel
theorem tyX0_ok : ∀ k, k < 2 → parseFieldDescriptor (TX0 k).2.2.1 = some (tyX0 k) := by decide +kernel
abbrev cX0_init : ByteArray := prog_2_method_1_code
def yX0_init : MethodName := ⟨RX0, "<init>", "()V"⟩
abbrev cX0_write : ByteArray := prog_2_method_2_code
def yX0_write : MethodName := ⟨RX0, "write", "(IILColdChain$Van;)V"⟩
abbrev cX0_row : ByteArray := prog_2_method_3_code
def yX0_row : MethodName := ⟨RX0, "row", "(III)[I"⟩
def RX1 : String := "ColdChain$Pallet"
def TX1 : u_T := fun k => match k with
  | 0 => ("ColdChain$Pallet", "van", "I", false)
  | 1 => ("ColdChain$Pallet", "zone", "I", false)
  | 2 => ("ColdChain$Pallet", "limit", "I", false)
  | 3 => ("ColdChain$Pallet", "allowance", "I", false)
  | 4 => ("ColdChain$Pallet", "value", "I", false)
  | 5 => ("ColdChain$Pallet", "state", "I", false)
  | 6 => ("ColdChain$Pallet", "openMinutes", "I", false)
  | 7 => ("ColdChain$Pallet", "closedMinutes", "I", false)
  | 8 => ("ColdChain$Pallet", "toldMinutes", "I", false)
  | _ => ("ColdChain$Pallet", "part", "I", false)
def tyX1 : Nat → FieldType := fun k => match k with
  | 0 => .int
  | 1 => .int
  | 2 => .int
  | 3 => .int
  | 4 => .int
  | 5 => .int
  | 6 => .int
  | 7 => .int
  | 8 => .int
  | _ => .int
abbrev wsX10 : List Cond := u_ws RX1 TX1 10
set_option maxRecDepth 100000 in
theorem inX1 : ∀ w ∈ u_ws RX1 TX1 10, w ∈ lw_tbl := by decide +kernel
theorem nmX1 : ∀ a, a < 10 → ∀ b, b < 10 → a ≠ b → (TX1 a).2.1 ≠ (TX1 b).2.1 := by decide +kernel
theorem tyX1_ok : ∀ k, k < 10 → parseFieldDescriptor (TX1 k).2.2.1 = some (tyX1 k) := by decide +kernel
abbrev cX1_init : ByteArray := prog_3_method_1_code
def yX1_init : MethodName := ⟨RX1, "<init>", "()V"⟩
abbrev cX1_copyFrom : ByteArray := prog_3_method_2_code
def yX1_copyFrom : MethodName := ⟨RX1, "copyFrom", "(LColdChain$Pallet;)V"⟩
abbrev cX1_start : ByteArray := prog_3_method_3_code
def yX1_start : MethodName := ⟨RX1, "start", "(IIIII)V"⟩
abbrev cX1_isIn : ByteArray := prog_3_method_4_code
def yX1_isIn : MethodName := ⟨RX1, "isIn", "(I)Z"⟩
abbrev cX1_isOverdue : ByteArray := prog_3_method_5_code
def yX1_isOverdue : MethodName := ⟨RX1, "isOverdue", "()Z"⟩
abbrev cX1_addMinute : ByteArray := prog_3_method_6_code
def yX1_addMinute : MethodName := ⟨RX1, "addMinute", "(LColdChain$Van;)V"⟩
abbrev cX1_wasRejected : ByteArray := prog_3_method_7_code
def yX1_wasRejected : MethodName := ⟨RX1, "wasRejected", "()Z"⟩
abbrev cX1_cause : ByteArray := prog_3_method_8_code
def yX1_cause : MethodName := ⟨RX1, "cause", "()I"⟩
abbrev cX1_claim : ByteArray := prog_3_method_9_code
def yX1_claim : MethodName := ⟨RX1, "claim", "()I"⟩
abbrev cX1_claimBy : ByteArray := prog_3_method_10_code
def yX1_claimBy : MethodName := ⟨RX1, "claimBy", "(I)I"⟩
abbrev cX1_property : ByteArray := prog_3_method_11_code
def yX1_property : MethodName := ⟨RX1, "property", "(I)I"⟩
def RX2 : String := "ColdChain$Script"
def TX2 : u_T := fun k => match k with
  | 0 => ("ColdChain$Script", "text", "[C", true)
  | 1 => ("ColdChain$Script", "length", "I", false)
  | 2 => ("ColdChain$Script", "at", "I", false)
  | 3 => ("ColdChain$Script", "letters", "[I", true)
  | 4 => ("ColdChain$Script", "firsts", "[I", true)
  | 5 => ("ColdChain$Script", "seconds", "[I", true)
  | _ => ("ColdChain$Script", "commandCount", "I", false)
def tyX2 : Nat → FieldType := fun k => match k with
  | 0 => .array .char
  | 1 => .int
  | 2 => .int
  | 3 => .array .int
  | 4 => .array .int
  | 5 => .array .int
  | _ => .int
abbrev wsX20 : List Cond := u_ws RX2 TX2 7
set_option maxRecDepth 100000 in
theorem inX2 : ∀ w ∈ u_ws RX2 TX2 7, w ∈ lw_tbl := by decide +kernel
theorem nmX2 : ∀ a, a < 7 → ∀ b, b < 7 → a ≠ b → (TX2 a).2.1 ≠ (TX2 b).2.1 := by decide +kernel
theorem tyX2_ok : ∀ k, k < 7 → parseFieldDescriptor (TX2 k).2.2.1 = some (tyX2 k) := by decide +kernel
abbrev cX2_init : ByteArray := prog_4_method_1_code
def yX2_init : MethodName := ⟨RX2, "<init>", "()V"⟩
abbrev cX2_append : ByteArray := prog_4_method_2_code
def yX2_append : MethodName := ⟨RX2, "append", "(I)I"⟩
abbrev cX2_read : ByteArray := prog_4_method_3_code
def yX2_read : MethodName := ⟨RX2, "read", "()I"⟩
abbrev cX2_readCommand : ByteArray := prog_4_method_4_code
def yX2_readCommand : MethodName := ⟨RX2, "readCommand", "(I)Z"⟩
abbrev cX2_readNumber : ByteArray := prog_4_method_5_code
def yX2_readNumber : MethodName := ⟨RX2, "readNumber", "()I"⟩
abbrev cX2_readSign : ByteArray := prog_4_method_6_code
def yX2_readSign : MethodName := ⟨RX2, "readSign", "(C)Z"⟩
abbrev cX2_skipSpaces : ByteArray := prog_4_method_7_code
def yX2_skipSpaces : MethodName := ⟨RX2, "skipSpaces", "()V"⟩
abbrev cX2_isLetter : ByteArray := prog_4_method_8_code
def yX2_isLetter : MethodName := ⟨RX2, "isLetter", "(C)Z"⟩
abbrev cX2_isDigit : ByteArray := prog_4_method_9_code
def yX2_isDigit : MethodName := ⟨RX2, "isDigit", "(C)Z"⟩
def RX3 : String := "ColdChain$State"
def TX3 : u_T := fun k => match k with
  | 0 => ("ColdChain$State", "time", "I", false)
  | 1 => ("ColdChain$State", "outside", "I", false)
  | 2 => ("ColdChain$State", "difference", "I", false)
  | 3 => ("ColdChain$State", "patience", "I", false)
  | 4 => ("ColdChain$State", "vanCount", "I", false)
  | 5 => ("ColdChain$State", "palletCount", "I", false)
  | 6 => ("ColdChain$State", "vans", "[LColdChain$Van;", true)
  | _ => ("ColdChain$State", "pallets", "[LColdChain$Pallet;", true)
def tyX3 : Nat → FieldType := fun k => match k with
  | 0 => .int
  | 1 => .int
  | 2 => .int
  | 3 => .int
  | 4 => .int
  | 5 => .int
  | 6 => .array (.object "ColdChain$Van")
  | _ => .array (.object "ColdChain$Pallet")
abbrev wsX30 : List Cond := u_ws RX3 TX3 8
set_option maxRecDepth 100000 in
theorem inX3 : ∀ w ∈ u_ws RX3 TX3 8, w ∈ lw_tbl := by decide +kernel
theorem nmX3 : ∀ a, a < 8 → ∀ b, b < 8 → a ≠ b → (TX3 a).2.1 ≠ (TX3 b).2.1 := by decide +kernel
theorem tyX3_ok : ∀ k, k < 8 → parseFieldDescriptor (TX3 k).2.2.1 = some (tyX3 k) := by decide +kernel
abbrev cX3_init : ByteArray := prog_5_method_1_code
def yX3_init : MethodName := ⟨RX3, "<init>", "()V"⟩
abbrev cX3_copyFrom : ByteArray := prog_5_method_2_code
def yX3_copyFrom : MethodName := ⟨RX3, "copyFrom", "(LColdChain$State;)V"⟩
abbrev cX3_hasVan : ByteArray := prog_5_method_3_code
def yX3_hasVan : MethodName := ⟨RX3, "hasVan", "(I)Z"⟩
abbrev cX3_hasZone : ByteArray := prog_5_method_4_code
def yX3_hasZone : MethodName := ⟨RX3, "hasZone", "(II)Z"⟩
abbrev cX3_hasPallet : ByteArray := prog_5_method_5_code
def yX3_hasPallet : MethodName := ⟨RX3, "hasPallet", "(I)Z"⟩
abbrev cX3_foundProbes : ByteArray := prog_5_method_6_code
def yX3_foundProbes : MethodName := ⟨RX3, "foundProbes", "()I"⟩
abbrev cX3_palletsIn : ByteArray := prog_5_method_7_code
def yX3_palletsIn : MethodName := ⟨RX3, "palletsIn", "(I)I"⟩
abbrev cX3_palletsInZone : ByteArray := prog_5_method_8_code
def yX3_palletsInZone : MethodName := ⟨RX3, "palletsInZone", "(II)I"⟩
abbrev cX3_hasOverdue : ByteArray := prog_5_method_9_code
def yX3_hasOverdue : MethodName := ⟨RX3, "hasOverdue", "(I)Z"⟩
abbrev cX3_putVan : ByteArray := prog_5_method_10_code
def yX3_putVan : MethodName := ⟨RX3, "putVan", "(II)I"⟩
abbrev cX3_changeNumber : ByteArray := prog_5_method_11_code
def yX3_changeNumber : MethodName := ⟨RX3, "changeNumber", "(II)I"⟩
abbrev cX3_changeVan : ByteArray := prog_5_method_12_code
def yX3_changeVan : MethodName := ⟨RX3, "changeVan", "(III)I"⟩
abbrev cX3_changeProbe : ByteArray := prog_5_method_13_code
def yX3_changeProbe : MethodName := ⟨RX3, "changeProbe", "(IIII)I"⟩
abbrev cX3_mendProbe : ByteArray := prog_5_method_14_code
def yX3_mendProbe : MethodName := ⟨RX3, "mendProbe", "(II)I"⟩
abbrev cX3_putPallet : ByteArray := prog_5_method_15_code
def yX3_putPallet : MethodName := ⟨RX3, "putPallet", "(IIIII)I"⟩
abbrev cX3_turnDoor : ByteArray := prog_5_method_16_code
def yX3_turnDoor : MethodName := ⟨RX3, "turnDoor", "(II)I"⟩
abbrev cX3_letPass : ByteArray := prog_5_method_17_code
def yX3_letPass : MethodName := ⟨RX3, "letPass", "(ILColdChain$History;)I"⟩
abbrev cX3_minuteInVan : ByteArray := prog_5_method_18_code
def yX3_minuteInVan : MethodName := ⟨RX3, "minuteInVan", "(I)I"⟩
abbrev cX3_handOver : ByteArray := prog_5_method_19_code
def yX3_handOver : MethodName := ⟨RX3, "handOver", "(I)I"⟩
abbrev cX3_bringBack : ByteArray := prog_5_method_20_code
def yX3_bringBack : MethodName := ⟨RX3, "bringBack", "(II)I"⟩
abbrev cX3_isIn : ByteArray := prog_5_method_21_code
def yX3_isIn : MethodName := ⟨RX3, "isIn", "(II)Z"⟩
abbrev cX3_shareByValues : ByteArray := prog_5_method_22_code
def yX3_shareByValues : MethodName := ⟨RX3, "shareByValues", "(II)V"⟩
abbrev cX3_shareRest : ByteArray := prog_5_method_23_code
def yX3_shareRest : MethodName := ⟨RX3, "shareRest", "(II)I"⟩
def RX4 : String := "ColdChain$Van"
def TX4 : u_T := fun k => match k with
  | 0 => ("ColdChain$Van", "setPoint", "I", false)
  | 1 => ("ColdChain$Van", "cooling", "I", false)
  | 2 => ("ColdChain$Van", "open", "Z", false)
  | 3 => ("ColdChain$Van", "addedAt", "I", false)
  | _ => ("ColdChain$Van", "zones", "[LColdChain$Zone;", true)
def tyX4 : Nat → FieldType := fun k => match k with
  | 0 => .int
  | 1 => .int
  | 2 => .boolean
  | 3 => .int
  | _ => .array (.object "ColdChain$Zone")
abbrev wsX40 : List Cond := u_ws RX4 TX4 5
set_option maxRecDepth 100000 in
theorem inX4 : ∀ w ∈ u_ws RX4 TX4 5, w ∈ lw_tbl := by decide +kernel
theorem nmX4 : ∀ a, a < 5 → ∀ b, b < 5 → a ≠ b → (TX4 a).2.1 ≠ (TX4 b).2.1 := by decide +kernel
theorem tyX4_ok : ∀ k, k < 5 → parseFieldDescriptor (TX4 k).2.2.1 = some (tyX4 k) := by decide +kernel
abbrev cX4_init : ByteArray := prog_6_method_1_code
def yX4_init : MethodName := ⟨RX4, "<init>", "()V"⟩
abbrev cX4_copyFrom : ByteArray := prog_6_method_2_code
def yX4_copyFrom : MethodName := ⟨RX4, "copyFrom", "(LColdChain$Van;)V"⟩
abbrev cX4_start : ByteArray := prog_6_method_3_code
def yX4_start : MethodName := ⟨RX4, "start", "(III)V"⟩
abbrev cX4_changeTemperatures : ByteArray := prog_6_method_4_code
def yX4_changeTemperatures : MethodName := ⟨RX4, "changeTemperatures", "(I)V"⟩
abbrev cX4_mixAir : ByteArray := prog_6_method_5_code
def yX4_mixAir : MethodName := ⟨RX4, "mixAir", "()V"⟩
abbrev cX4_findProbes : ByteArray := prog_6_method_6_code
def yX4_findProbes : MethodName := ⟨RX4, "findProbes", "(II)I"⟩
abbrev cX4_isOdd : ByteArray := prog_6_method_7_code
def yX4_isOdd : MethodName := ⟨RX4, "isOdd", "(II)Z"⟩
abbrev cX4_toldIn : ByteArray := prog_6_method_8_code
def yX4_toldIn : MethodName := ⟨RX4, "toldIn", "(I)I"⟩
def RX5 : String := "ColdChain$Zone"
def TX5 : u_T := fun k => match k with
  | 0 => ("ColdChain$Zone", "temperature", "I", false)
  | 1 => ("ColdChain$Zone", "mode", "I", false)
  | 2 => ("ColdChain$Zone", "value", "I", false)
  | 3 => ("ColdChain$Zone", "found", "Z", false)
  | _ => ("ColdChain$Zone", "oddMinutes", "I", false)
def tyX5 : Nat → FieldType := fun k => match k with
  | 0 => .int
  | 1 => .int
  | 2 => .int
  | 3 => .boolean
  | _ => .int
abbrev wsX50 : List Cond := u_ws RX5 TX5 5
set_option maxRecDepth 100000 in
theorem inX5 : ∀ w ∈ u_ws RX5 TX5 5, w ∈ lw_tbl := by decide +kernel
theorem nmX5 : ∀ a, a < 5 → ∀ b, b < 5 → a ≠ b → (TX5 a).2.1 ≠ (TX5 b).2.1 := by decide +kernel
theorem tyX5_ok : ∀ k, k < 5 → parseFieldDescriptor (TX5 k).2.2.1 = some (tyX5 k) := by decide +kernel
abbrev cX5_init : ByteArray := prog_7_method_1_code
def yX5_init : MethodName := ⟨RX5, "<init>", "()V"⟩
abbrev cX5_copyFrom : ByteArray := prog_7_method_2_code
def yX5_copyFrom : MethodName := ⟨RX5, "copyFrom", "(LColdChain$Zone;)V"⟩
abbrev cX5_mend : ByteArray := prog_7_method_3_code
def yX5_mend : MethodName := ⟨RX5, "mend", "()V"⟩
abbrev cX5_reading : ByteArray := prog_7_method_4_code
def yX5_reading : MethodName := ⟨RX5, "reading", "()I"⟩
abbrev cX5_coolTo : ByteArray := prog_7_method_5_code
def yX5_coolTo : MethodName := ⟨RX5, "coolTo", "(II)V"⟩
def RX6 : String := "ColdChain"
def TX6 : u_T := fun k => match k with
  | 0 => ("ColdChain", "now", "LColdChain$State;", true)
  | 1 => ("ColdChain", "trial", "LColdChain$State;", true)
  | 2 => ("ColdChain", "saved", "[LColdChain$State;", true)
  | 3 => ("ColdChain", "free", "I", false)
  | 4 => ("ColdChain", "savedCount", "I", false)
  | 5 => ("ColdChain", "history", "LColdChain$History;", true)
  | _ => ("ColdChain", "script", "LColdChain$Script;", true)
def tyX6 : Nat → FieldType := fun k => match k with
  | 0 => .object "ColdChain$State"
  | 1 => .object "ColdChain$State"
  | 2 => .array (.object "ColdChain$State")
  | 3 => .int
  | 4 => .int
  | 5 => .object "ColdChain$History"
  | _ => .object "ColdChain$Script"
abbrev wsX60 : List Cond := u_ws RX6 TX6 7
set_option maxRecDepth 100000 in
theorem inX6 : ∀ w ∈ u_ws RX6 TX6 7, w ∈ lw_tbl := by decide +kernel
theorem nmX6 : ∀ a, a < 7 → ∀ b, b < 7 → a ≠ b → (TX6 a).2.1 ≠ (TX6 b).2.1 := by decide +kernel
theorem tyX6_ok : ∀ k, k < 7 → parseFieldDescriptor (TX6 k).2.2.1 = some (tyX6 k) := by decide +kernel
abbrev cX6_init : ByteArray := prog_1_method_1_code
def yX6_init : MethodName := ⟨RX6, "<init>", "()V"⟩
abbrev cX6_addVan : ByteArray := prog_1_method_2_code
def yX6_addVan : MethodName := ⟨RX6, "addVan", "(II)I"⟩
abbrev cX6_setNumber : ByteArray := prog_1_method_3_code
def yX6_setNumber : MethodName := ⟨RX6, "setNumber", "(II)I"⟩
abbrev cX6_setVan : ByteArray := prog_1_method_4_code
def yX6_setVan : MethodName := ⟨RX6, "setVan", "(III)I"⟩
abbrev cX6_setProbe : ByteArray := prog_1_method_5_code
def yX6_setProbe : MethodName := ⟨RX6, "setProbe", "(IIII)I"⟩
abbrev cX6_repair : ByteArray := prog_1_method_6_code
def yX6_repair : MethodName := ⟨RX6, "repair", "(II)I"⟩
abbrev cX6_loadPallet : ByteArray := prog_1_method_7_code
def yX6_loadPallet : MethodName := ⟨RX6, "loadPallet", "(IIIII)I"⟩
abbrev cX6_door : ByteArray := prog_1_method_8_code
def yX6_door : MethodName := ⟨RX6, "door", "(II)I"⟩
abbrev cX6_pass : ByteArray := prog_1_method_9_code
def yX6_pass : MethodName := ⟨RX6, "pass", "(I)I"⟩
abbrev cX6_deliver : ByteArray := prog_1_method_10_code
def yX6_deliver : MethodName := ⟨RX6, "deliver", "(I)I"⟩
abbrev cX6_detour : ByteArray := prog_1_method_11_code
def yX6_detour : MethodName := ⟨RX6, "detour", "(II)I"⟩
abbrev cX6_appendCharacter : ByteArray := prog_1_method_12_code
def yX6_appendCharacter : MethodName := ⟨RX6, "appendCharacter", "(I)I"⟩
abbrev cX6_clearText : ByteArray := prog_1_method_13_code
def yX6_clearText : MethodName := ⟨RX6, "clearText", "()I"⟩
abbrev cX6_runScript : ByteArray := prog_1_method_14_code
def yX6_runScript : MethodName := ⟨RX6, "runScript", "()I"⟩
abbrev cX6_count : ByteArray := prog_1_method_15_code
def yX6_count : MethodName := ⟨RX6, "count", "(I)I"⟩
abbrev cX6_van : ByteArray := prog_1_method_16_code
def yX6_van : MethodName := ⟨RX6, "van", "(II)I"⟩
abbrev cX6_zone : ByteArray := prog_1_method_17_code
def yX6_zone : MethodName := ⟨RX6, "zone", "(III)I"⟩
abbrev cX6_pallet : ByteArray := prog_1_method_18_code
def yX6_pallet : MethodName := ⟨RX6, "pallet", "(II)I"⟩
abbrev cX6_claims : ByteArray := prog_1_method_19_code
def yX6_claims : MethodName := ⟨RX6, "claims", "(I)I"⟩
abbrev cX6_log : ByteArray := prog_1_method_20_code
def yX6_log : MethodName := ⟨RX6, "log", "(IIII)I"⟩
abbrev cX6_warm : ByteArray := prog_1_method_21_code
def yX6_warm : MethodName := ⟨RX6, "warm", "(IIIIII)I"⟩
abbrev cX6_minutesLeft : ByteArray := prog_1_method_22_code
def yX6_minutesLeft : MethodName := ⟨RX6, "minutesLeft", "(I)I"⟩
abbrev cX6_longestOpen : ByteArray := prog_1_method_23_code
def yX6_longestOpen : MethodName := ⟨RX6, "longestOpen", "(I)I"⟩
abbrev cX6_undo : ByteArray := prog_1_method_24_code
def yX6_undo : MethodName := ⟨RX6, "undo", "()I"⟩
abbrev cX6_noteState : ByteArray := prog_1_method_25_code
def yX6_noteState : MethodName := ⟨RX6, "noteState", "()V"⟩
abbrev cX6_kept : ByteArray := prog_1_method_26_code
def yX6_kept : MethodName := ⟨RX6, "kept", "(I)I"⟩
abbrev cX6_isError : ByteArray := prog_1_method_27_code
def yX6_isError : MethodName := ⟨RX6, "isError", "(I)Z"⟩
abbrev cX6_runCommand : ByteArray := prog_1_method_28_code
def yX6_runCommand : MethodName := ⟨RX6, "runCommand", "(I)I"⟩
abbrev cX6_mayBeOpen : ByteArray := prog_1_method_29_code
def yX6_mayBeOpen : MethodName := ⟨RX6, "mayBeOpen", "(II)Z"⟩
abbrev cX6_isWithin : ByteArray := prog_1_method_30_code
def yX6_isWithin : MethodName := ⟨RX6, "isWithin", "(III)Z"⟩
abbrev cX6_isVanSetting : ByteArray := prog_1_method_31_code
def yX6_isVanSetting : MethodName := ⟨RX6, "isVanSetting", "(II)Z"⟩
abbrev cX6_isProbeSetting : ByteArray := prog_1_method_32_code
def yX6_isProbeSetting : MethodName := ⟨RX6, "isProbeSetting", "(II)Z"⟩
abbrev cX6_isLimit : ByteArray := prog_1_method_33_code
def yX6_isLimit : MethodName := ⟨RX6, "isLimit", "(I)Z"⟩
abbrev cX6_isPrice : ByteArray := prog_1_method_34_code
def yX6_isPrice : MethodName := ⟨RX6, "isPrice", "(I)Z"⟩
def RX7 : String := "ColdChainModel"
def TX7 : u_T := fun k => match k with
  | 0 => ("ColdChainModel", "s", "[I", true)
  | 1 => ("ColdChainModel", "past", "[I", true)
  | 2 => ("ColdChainModel", "aside", "[I", true)
  | 3 => ("ColdChainModel", "kept", "[I", true)
  | 4 => ("ColdChainModel", "pasts", "I", false)
  | 5 => ("ColdChainModel", "log", "[I", true)
  | 6 => ("ColdChainModel", "isReal", "Z", false)
  | 7 => ("ColdChainModel", "text", "[I", true)
  | 8 => ("ColdChainModel", "typed", "I", false)
  | 9 => ("ColdChainModel", "spot", "I", false)
  | 10 => ("ColdChainModel", "letter", "I", false)
  | _ => ("ColdChainModel", "numbers", "[I", true)
def tyX7 : Nat → FieldType := fun k => match k with
  | 0 => .array .int
  | 1 => .array .int
  | 2 => .array .int
  | 3 => .array .int
  | 4 => .int
  | 5 => .array .int
  | 6 => .boolean
  | 7 => .array .int
  | 8 => .int
  | 9 => .int
  | 10 => .int
  | _ => .array .int
abbrev wsX70 : List Cond := u_ws RX7 TX7 12
set_option maxRecDepth 100000 in
theorem inX7 : ∀ w ∈ u_ws RX7 TX7 12, w ∈ lw_tbl := by decide +kernel
theorem nmX7 : ∀ a, a < 12 → ∀ b, b < 12 → a ≠ b → (TX7 a).2.1 ≠ (TX7 b).2.1 := by decide +kernel
theorem tyX7_ok : ∀ k, k < 12 → parseFieldDescriptor (TX7 k).2.2.1 = some (tyX7 k) := by decide +kernel
abbrev cX7_init : ByteArray := prog_9_method_1_code
def yX7_init : MethodName := ⟨RX7, "<init>", "()V"⟩
abbrev cX7_in : ByteArray := prog_9_method_3_code
def yX7_in : MethodName := ⟨RX7, "in", "(III)Z"⟩
abbrev cX7_copies : ByteArray := prog_9_method_4_code
def yX7_copies : MethodName := ⟨RX7, "copies", "([I[I)V"⟩
abbrev cX7_hold : ByteArray := prog_9_method_5_code
def yX7_hold : MethodName := ⟨RX7, "hold", "()V"⟩
abbrev cX7_ends : ByteArray := prog_9_method_6_code
def yX7_ends : MethodName := ⟨RX7, "ends", "(I)I"⟩
abbrev cX7_isVan : ByteArray := prog_9_method_7_code
def yX7_isVan : MethodName := ⟨RX7, "isVan", "(I)Z"⟩
abbrev cX7_isZone : ByteArray := prog_9_method_8_code
def yX7_isZone : MethodName := ⟨RX7, "isZone", "(I)Z"⟩
abbrev cX7_isPallet : ByteArray := prog_9_method_9_code
def yX7_isPallet : MethodName := ⟨RX7, "isPallet", "(I)Z"⟩
abbrev cX7_of : ByteArray := prog_9_method_10_code
def yX7_of : MethodName := ⟨RX7, "of", "(II)I"⟩
abbrev cX7_zoneSpot : ByteArray := prog_9_method_11_code
def yX7_zoneSpot : MethodName := ⟨RX7, "zoneSpot", "(II)I"⟩
abbrev cX7_at : ByteArray := prog_9_method_12_code
def yX7_at : MethodName := ⟨RX7, "at", "(III)I"⟩
abbrev cX7_palletSpot : ByteArray := prog_9_method_13_code
def yX7_palletSpot : MethodName := ⟨RX7, "palletSpot", "(I)I"⟩
abbrev cX7_its : ByteArray := prog_9_method_14_code
def yX7_its : MethodName := ⟨RX7, "its", "(II)I"⟩
abbrev cX7_reading : ByteArray := prog_9_method_15_code
def yX7_reading : MethodName := ⟨RX7, "reading", "(II)I"⟩
abbrev cX7_told : ByteArray := prog_9_method_16_code
def yX7_told : MethodName := ⟨RX7, "told", "(II)I"⟩
abbrev cX7_apart : ByteArray := prog_9_method_17_code
def yX7_apart : MethodName := ⟨RX7, "apart", "(II)I"⟩
abbrev cX7_isOdd : ByteArray := prog_9_method_18_code
def yX7_isOdd : MethodName := ⟨RX7, "isOdd", "(II)Z"⟩
abbrev cX7_heats : ByteArray := prog_9_method_19_code
def yX7_heats : MethodName := ⟨RX7, "heats", "(I)V"⟩
abbrev cX7_reads : ByteArray := prog_9_method_20_code
def yX7_reads : MethodName := ⟨RX7, "reads", "(I)I"⟩
abbrev cX7_warms : ByteArray := prog_9_method_21_code
def yX7_warms : MethodName := ⟨RX7, "warms", "(I)V"⟩
abbrev cX7_minute : ByteArray := prog_9_method_22_code
def yX7_minute : MethodName := ⟨RX7, "minute", "()I"⟩
abbrev cX7_inVan : ByteArray := prog_9_method_23_code
def yX7_inVan : MethodName := ⟨RX7, "inVan", "(I)I"⟩
abbrev cX7_bits : ByteArray := prog_9_method_24_code
def yX7_bits : MethodName := ⟨RX7, "bits", "(I)I"⟩
abbrev cX7_doors : ByteArray := prog_9_method_25_code
def yX7_doors : MethodName := ⟨RX7, "doors", "(II)I"⟩
abbrev cX7_passes : ByteArray := prog_9_method_26_code
def yX7_passes : MethodName := ⟨RX7, "passes", "(I)I"⟩
abbrev cX7_delivers : ByteArray := prog_9_method_27_code
def yX7_delivers : MethodName := ⟨RX7, "delivers", "(I)I"⟩
abbrev cX7_repairs : ByteArray := prog_9_method_28_code
def yX7_repairs : MethodName := ⟨RX7, "repairs", "(II)I"⟩
abbrev cX7_done : ByteArray := prog_9_method_29_code
def yX7_done : MethodName := ⟨RX7, "done", "(I)I"⟩
abbrev cX7_isCold : ByteArray := prog_9_method_30_code
def yX7_isCold : MethodName := ⟨RX7, "isCold", "(II)Z"⟩
abbrev cX7_addVan : ByteArray := prog_9_method_31_code
def yX7_addVan : MethodName := ⟨RX7, "addVan", "(II)I"⟩
abbrev cX7_isNumber : ByteArray := prog_9_method_32_code
def yX7_isNumber : MethodName := ⟨RX7, "isNumber", "(II)Z"⟩
abbrev cX7_setNumber : ByteArray := prog_9_method_33_code
def yX7_setNumber : MethodName := ⟨RX7, "setNumber", "(II)I"⟩
abbrev cX7_setVan : ByteArray := prog_9_method_34_code
def yX7_setVan : MethodName := ⟨RX7, "setVan", "(III)I"⟩
abbrev cX7_isMode : ByteArray := prog_9_method_35_code
def yX7_isMode : MethodName := ⟨RX7, "isMode", "(II)Z"⟩
abbrev cX7_setProbe : ByteArray := prog_9_method_36_code
def yX7_setProbe : MethodName := ⟨RX7, "setProbe", "(IIII)I"⟩
abbrev cX7_repair : ByteArray := prog_9_method_37_code
def yX7_repair : MethodName := ⟨RX7, "repair", "(II)I"⟩
abbrev cX7_manyIn : ByteArray := prog_9_method_38_code
def yX7_manyIn : MethodName := ⟨RX7, "manyIn", "(II)I"⟩
abbrev cX7_loadPallet : ByteArray := prog_9_method_39_code
def yX7_loadPallet : MethodName := ⟨RX7, "loadPallet", "(IIIII)I"⟩
abbrev cX7_door : ByteArray := prog_9_method_40_code
def yX7_door : MethodName := ⟨RX7, "door", "(II)I"⟩
abbrev cX7_pass : ByteArray := prog_9_method_41_code
def yX7_pass : MethodName := ⟨RX7, "pass", "(I)I"⟩
abbrev cX7_deliver : ByteArray := prog_9_method_42_code
def yX7_deliver : MethodName := ⟨RX7, "deliver", "(I)I"⟩
abbrev cX7_detour : ByteArray := prog_9_method_43_code
def yX7_detour : MethodName := ⟨RX7, "detour", "(II)I"⟩
abbrev cX7_appendCharacter : ByteArray := prog_9_method_44_code
def yX7_appendCharacter : MethodName := ⟨RX7, "appendCharacter", "(I)I"⟩
abbrev cX7_clearText : ByteArray := prog_9_method_45_code
def yX7_clearText : MethodName := ⟨RX7, "clearText", "()I"⟩
abbrev cX7_isAt : ByteArray := prog_9_method_46_code
def yX7_isAt : MethodName := ⟨RX7, "isAt", "(II)Z"⟩
abbrev cX7_skips : ByteArray := prog_9_method_47_code
def yX7_skips : MethodName := ⟨RX7, "skips", "()V"⟩
abbrev cX7_takes : ByteArray := prog_9_method_48_code
def yX7_takes : MethodName := ⟨RX7, "takes", "(I)Z"⟩
abbrev cX7_isFigure : ByteArray := prog_9_method_49_code
def yX7_isFigure : MethodName := ⟨RX7, "isFigure", "(I)Z"⟩
abbrev cX7_isCommand : ByteArray := prog_9_method_50_code
def yX7_isCommand : MethodName := ⟨RX7, "isCommand", "()Z"⟩
abbrev cX7_does : ByteArray := prog_9_method_51_code
def yX7_does : MethodName := ⟨RX7, "does", "()I"⟩
abbrev cX7_isScript : ByteArray := prog_9_method_52_code
def yX7_isScript : MethodName := ⟨RX7, "isScript", "()Z"⟩
abbrev cX7_runScript : ByteArray := prog_9_method_53_code
def yX7_runScript : MethodName := ⟨RX7, "runScript", "()I"⟩
abbrev cX7_count : ByteArray := prog_9_method_54_code
def yX7_count : MethodName := ⟨RX7, "count", "(I)I"⟩
abbrev cX7_van : ByteArray := prog_9_method_55_code
def yX7_van : MethodName := ⟨RX7, "van", "(II)I"⟩
abbrev cX7_zone : ByteArray := prog_9_method_56_code
def yX7_zone : MethodName := ⟨RX7, "zone", "(III)I"⟩
abbrev cX7_cause : ByteArray := prog_9_method_57_code
def yX7_cause : MethodName := ⟨RX7, "cause", "(I)I"⟩
abbrev cX7_pallet : ByteArray := prog_9_method_58_code
def yX7_pallet : MethodName := ⟨RX7, "pallet", "(II)I"⟩
abbrev cX7_claim : ByteArray := prog_9_method_59_code
def yX7_claim : MethodName := ⟨RX7, "claim", "(II)I"⟩
abbrev cX7_claims : ByteArray := prog_9_method_60_code
def yX7_claims : MethodName := ⟨RX7, "claims", "(I)I"⟩
abbrev cX7_entry : ByteArray := prog_9_method_61_code
def yX7_entry : MethodName := ⟨RX7, "entry", "(IIII)I"⟩
abbrev cX7_log : ByteArray := prog_9_method_62_code
def yX7_log : MethodName := ⟨RX7, "log", "(IIII)I"⟩
abbrev cX7_warm : ByteArray := prog_9_method_63_code
def yX7_warm : MethodName := ⟨RX7, "warm", "(IIIIII)I"⟩
abbrev cX7_minutesLeft : ByteArray := prog_9_method_64_code
def yX7_minutesLeft : MethodName := ⟨RX7, "minutesLeft", "(I)I"⟩
abbrev cX7_mayBeOpen : ByteArray := prog_9_method_65_code
def yX7_mayBeOpen : MethodName := ⟨RX7, "mayBeOpen", "(II)Z"⟩
abbrev cX7_longestOpen : ByteArray := prog_9_method_66_code
def yX7_longestOpen : MethodName := ⟨RX7, "longestOpen", "(I)I"⟩
abbrev cX7_undo : ByteArray := prog_9_method_67_code
def yX7_undo : MethodName := ⟨RX7, "undo", "()I"⟩
def RJ6 : String := "java/lang/Integer"
abbrev cJ6_bitCount_0f7a4 : ByteArray := prog_10_method_49_code
def yJ6_bitCount_0f7a4 : MethodName := ⟨RJ6, "bitCount", "(I)I"⟩
def RJ9 : String := "java/lang/Math"
abbrev cJ9_floorDiv_7cf53 : ByteArray := prog_11_method_47_code
def yJ9_floorDiv_7cf53 : MethodName := ⟨RJ9, "floorDiv", "(II)I"⟩
abbrev cJ9_abs_0f7a4 : ByteArray := prog_11_method_59_code
def yJ9_abs_0f7a4 : MethodName := ⟨RJ9, "abs", "(I)I"⟩
abbrev cJ9_max_7cf53 : ByteArray := prog_11_method_65_code
def yJ9_max_7cf53 : MethodName := ⟨RJ9, "max", "(II)I"⟩
abbrev cJ9_min_7cf53 : ByteArray := prog_11_method_69_code
def yJ9_min_7cf53 : MethodName := ⟨RJ9, "min", "(II)I"⟩
def RL : String := "ColdChainLaw"
abbrev cL_law : ByteArray := code
def yL_law : MethodName := ⟨RL, "law", "([I)Z"⟩
abbrev vwCl : List vw_C := [(RX0, TX0, 2), (RX1, TX1, 10), (RX2, TX2, 7), (RX3, TX3, 8), (RX4, TX4, 5), (RX5, TX5, 5), (RX6, TX6, 7), (RX7, TX7, 12)]
end
section
/-! CORE: the heap of the system once it is built has a fixed shape; only ints change. An object is named by (kind, three indices), the ints by (region, index). -/
abbrev Obj : Type := Nat × Nat × Nat × Nat
abbrev OV : Type := Int32 ⊕ Obj
abbrev Mm : Type := Nat → Nat → Int32
abbrev Gl : Type := va_G × (Obj → Nat) × (Nat → ClassId)
def vlv (G : Gl) : OV → Value
  | .inl x => .int x
  | .inr o => .ref (G.2.1 o)
def wr (M : Mm) (r i : Nat) (x : Int32) : Mm := fun r' i' => if r' = r ∧ i' = i then x else M r' i'
def lenR (r : Nat) : Nat := if r < 26 then 80 else if r < 48 then 601 else if r = 50 then 183 else if r = 51 then 1098 else if r = 52 then 183 else if r = 53 then 183 else if r = 54 then 10800 else if r = 55 then 80 else 2
/-- which objects there are -/
def okO : Obj → Bool
  | (0, a, b, c) => decide (a = 0 ∧ b = 0 ∧ c = 0)
  | (1, q, p, c) => decide (q < 9 ∧ p < 12 ∧ c = 0)
  | (2, a, b, c) => decide (a = 0 ∧ b = 0 ∧ c = 0)
  | (3, q, b, c) => decide (q < 9 ∧ b = 0 ∧ c = 0)
  | (4, q, v, c) => decide (q < 9 ∧ v < 3 ∧ c = 0)
  | (5, q, v, z) => decide (q < 9 ∧ v < 3 ∧ z < 3)
  | (6, a, b, c) => decide (a = 0 ∧ b = 0 ∧ c = 0)
  | (7, a, b, c) => decide (a = 0 ∧ b = 0 ∧ c = 0)
  | (8, r, n, c) => decide (r = 22 ∧ n = 80 ∧ c = 0)
  | (9, r, n, c) => decide (((23 ≤ r ∧ r ≤ 25) ∨ (30 ≤ r ∧ r ≤ 47) ∨ (50 ≤ r ∧ r ≤ 56)) ∧ n = lenR r ∧ c = 0)
  | (10, q, b, c) => decide (q < 9 ∧ b = 0 ∧ c = 0)
  | (11, a, b, c) => decide (a = 0 ∧ b = 0 ∧ c = 0)
  | (12, q, b, c) => decide (q < 9 ∧ b = 0 ∧ c = 0)
  | (13, q, v, c) => decide (q < 9 ∧ v < 3 ∧ c = 0)
  | (14, t, b, c) => decide (t < 2 ∧ b = 0 ∧ c = 0)
  | _ => false
/-- a row of references -/
def rfR (G : Gl) (n : Nat) (f : Nat → Obj) : Nat → Option Nat := fun i => if i < n then some (G.2.1 (f i)) else none
/-- what an object holds -/
def ent (G : Gl) (M : Mm) : Obj → va_E
  | (0, _, _, _) => .inr (0, [.ref (G.2.1 (14, 0, 0, 0)), .ref (G.2.1 (14, 1, 0, 0))])
  | (1, q, p, _) => .inr (1, [.int (M q (63 + 10 * p)), .int (M q (63 + 10 * p + 1)), .int (M q (63 + 10 * p + 2)), .int (M q (63 + 10 * p + 3)), .int (M q (63 + 10 * p + 4)), .int (M q (63 + 10 * p + 5)), .int (M q (63 + 10 * p + 6)), .int (M q (63 + 10 * p + 7)), .int (M q (63 + 10 * p + 8)), .int (M q (63 + 10 * p + 9))])
  | (2, _, _, _) => .inr (2, [.ref (G.2.1 (8, 22, 80, 0)), .int (M 21 0), .int (M 21 1), .ref (G.2.1 (9, 23, 80, 0)), .ref (G.2.1 (9, 24, 80, 0)), .ref (G.2.1 (9, 25, 80, 0)), .int (M 21 2)])
  | (3, q, _, _) => .inr (3, [.int (M q 2), .int (M q 3), .int (M q 4), .int (M q 5), .int (M q 0), .int (M q 1), .ref (G.2.1 (12, q, 0, 0)), .ref (G.2.1 (10, q, 0, 0))])
  | (4, q, v, _) => .inr (4, [.int (M q (6 + 19 * v)), .int (M q (6 + 19 * v + 1)), .int (M q (6 + 19 * v + 2)), .int (M q (6 + 19 * v + 3)), .ref (G.2.1 (13, q, v, 0))])
  | (5, q, v, z) => .inr (5, [.int (M q (10 + 19 * v + 5 * z)), .int (M q (10 + 19 * v + 5 * z + 1)), .int (M q (10 + 19 * v + 5 * z + 2)), .int (M q (10 + 19 * v + 5 * z + 3)), .int (M q (10 + 19 * v + 5 * z + 4))])
  | (6, _, _, _) => .inr (6, [.ref (G.2.1 (3, 0, 0, 0)), .ref (G.2.1 (3, 1, 0, 0)), .ref (G.2.1 (11, 0, 0, 0)), .int (M 20 0), .int (M 20 1), .ref (G.2.1 (0, 0, 0, 0)), .ref (G.2.1 (2, 0, 0, 0))])
  | (7, _, _, _) => .inr (7, [.ref (G.2.1 (9, 50, 183, 0)), .ref (G.2.1 (9, 51, 1098, 0)), .ref (G.2.1 (9, 52, 183, 0)), .ref (G.2.1 (9, 53, 183, 0)), .int (M 60 0), .ref (G.2.1 (9, 54, 10800, 0)), .int (M 60 1), .ref (G.2.1 (9, 55, 80, 0)), .int (M 60 2), .int (M 60 3), .int (M 60 4), .ref (G.2.1 (9, 56, 2, 0))])
  | (8, r, n, _) => .inl (G.2.2 8, n, .inl (M r))
  | (9, r, n, _) => .inl (G.2.2 9, n, .inl (M r))
  | (10, q, _, _) => .inl (G.2.2 10, 12, .inr (.inr (.inr (.inr (rfR G 12 (fun i => (1, q, i, 0)))))))
  | (11, _, _, _) => .inl (G.2.2 11, 7, .inr (.inr (.inr (.inr (rfR G 7 (fun i => (3, 2 + i, 0, 0)))))))
  | (12, q, _, _) => .inl (G.2.2 12, 3, .inr (.inr (.inr (.inr (rfR G 3 (fun i => (4, q, i, 0)))))))
  | (13, q, v, _) => .inl (G.2.2 13, 3, .inr (.inr (.inr (.inr (rfR G 3 (fun i => (5, q, v, i)))))))
  | (14, t, _, _) => .inl (G.2.2 14, 9, .inr (.inr (.inr (.inr (rfR G 9 (fun i => (9, 30 + 9 * t + i, 601, 0)))))))
  | _ => .inr (99, [])
/-- the object that owns a place -/
def ow (r i : Nat) : Obj :=
  if r < 9 then
    if i < 6 then (3, r, 0, 0)
    else if i < 63 then (if (i - 6) % 19 < 4 then (4, r, (i - 6) / 19, 0) else (5, r, (i - 6) / 19, ((i - 6) % 19 - 4) / 5))
    else (1, r, (i - 63) / 10, 0)
  else if r = 20 then (6, 0, 0, 0) else if r = 21 then (2, 0, 0, 0) else if r = 60 then (7, 0, 0, 0)
  else if r = 22 then (8, 22, 80, 0) else (9, r, lenR r, 0)
theorem ow1 {q p j : Nat} (hq : q < 9) (hj : j < 10) : ow q (63 + 10 * p + j) = (1, q, p, 0) := by
  have e : (63 + 10 * p + j - 63) / 10 = p := by omega
  rw [ow, if_pos hq, if_neg (by omega), if_neg (by omega), e]
theorem ow4 {q v j : Nat} (hq : q < 9) (hv : v < 3) (hj : j < 4) : ow q (6 + 19 * v + j) = (4, q, v, 0) := by
  have e : (6 + 19 * v + j - 6) / 19 = v := by omega
  rw [ow, if_pos hq, if_neg (by omega), if_pos (by omega), if_pos (by omega), e]
theorem ow5 {q v z j : Nat} (hq : q < 9) (hv : v < 3) (hz : z < 3) (hj : j < 5) : ow q (10 + 19 * v + 5 * z + j) = (5, q, v, z) := by
  have e : (10 + 19 * v + 5 * z + j - 6) / 19 = v := by omega
  have e2 : ((10 + 19 * v + 5 * z + j - 6) % 19 - 4) / 5 = z := by omega
  rw [ow, if_pos hq, if_neg (by omega), if_pos (by omega), if_neg (by omega), e, e2]
theorem ow3 {q j : Nat} (hq : q < 9) (hj : j < 6) : ow q j = (3, q, 0, 0) := by
  rw [ow, if_pos hq, if_pos hj]
theorem ow9 {r n c i : Nat} (h : okO (9, r, n, c) = true) : ow r i = (9, r, n, c) := by
  simp only [okO, decide_eq_true_eq] at h
  obtain ⟨h1, rfl, rfl⟩ := h
  rw [ow, if_neg (by omega), if_neg (by omega), if_neg (by omega), if_neg (by omega), if_neg (by omega)]
theorem ent_congr (G : Gl) {M M' : Mm} {o : Obj} (ho : okO o = true) (h : ∀ r i, ow r i = o → M r i = M' r i) : ent G M o = ent G M' o := by
  obtain ⟨k, a, b, c⟩ := o
  match k, ho, h with
  | 0, _, _ => rfl
  | 1, ho, h =>
    simp only [okO, decide_eq_true_eq] at ho
    obtain ⟨h1, h2, rfl⟩ := ho
    have e : ∀ j, j < 10 → M a (63 + 10 * b + j) = M' a (63 + 10 * b + j) := fun j hj => h _ _ (ow1 h1 hj)
    have e0 : M a (63 + 10 * b) = M' a (63 + 10 * b) := e 0 (by decide)
    simp only [ent, e0, e 1 (by decide), e 2 (by decide), e 3 (by decide), e 4 (by decide), e 5 (by decide), e 6 (by decide), e 7 (by decide), e 8 (by decide), e 9 (by decide)]
  | 2, ho, h =>
    simp only [okO, decide_eq_true_eq] at ho
    obtain ⟨rfl, rfl, rfl⟩ := ho
    have e : ∀ j, M 21 j = M' 21 j := fun j => h _ _ rfl
    simp only [ent, e]
  | 3, ho, h =>
    simp only [okO, decide_eq_true_eq] at ho
    obtain ⟨h1, rfl, rfl⟩ := ho
    have e : ∀ j, j < 6 → M a j = M' a j := fun j hj => h _ _ (ow3 h1 hj)
    simp only [ent, e 0 (by decide), e 1 (by decide), e 2 (by decide), e 3 (by decide), e 4 (by decide), e 5 (by decide)]
  | 4, ho, h =>
    simp only [okO, decide_eq_true_eq] at ho
    obtain ⟨h1, h2, rfl⟩ := ho
    have e : ∀ j, j < 4 → M a (6 + 19 * b + j) = M' a (6 + 19 * b + j) := fun j hj => h _ _ (ow4 h1 h2 hj)
    have e0 : M a (6 + 19 * b) = M' a (6 + 19 * b) := e 0 (by decide)
    simp only [ent, e0, e 1 (by decide), e 2 (by decide), e 3 (by decide)]
  | 5, ho, h =>
    simp only [okO, decide_eq_true_eq] at ho
    obtain ⟨h1, h2, h3⟩ := ho
    have e : ∀ j, j < 5 → M a (10 + 19 * b + 5 * c + j) = M' a (10 + 19 * b + 5 * c + j) := fun j hj => h _ _ (ow5 h1 h2 h3 hj)
    have e0 : M a (10 + 19 * b + 5 * c) = M' a (10 + 19 * b + 5 * c) := e 0 (by decide)
    simp only [ent, e0, e 1 (by decide), e 2 (by decide), e 3 (by decide), e 4 (by decide)]
  | 6, ho, h =>
    simp only [okO, decide_eq_true_eq] at ho
    obtain ⟨rfl, rfl, rfl⟩ := ho
    have e : ∀ j, M 20 j = M' 20 j := fun j => h _ _ rfl
    simp only [ent, e]
  | 7, ho, h =>
    simp only [okO, decide_eq_true_eq] at ho
    obtain ⟨rfl, rfl, rfl⟩ := ho
    have e : ∀ j, M 60 j = M' 60 j := fun j => h _ _ rfl
    simp only [ent, e]
  | 8, ho, h =>
    simp only [okO, decide_eq_true_eq] at ho
    obtain ⟨rfl, rfl, rfl⟩ := ho
    have e : M 22 = M' 22 := funext fun j => h _ _ rfl
    simp only [ent, e]
  | 9, ho, h =>
    have e : M a = M' a := funext fun j => h _ _ (ow9 ho)
    simp only [ent, e]
  | 10, _, _ => rfl
  | 11, _, _ => rfl
  | 12, _, _ => rfl
  | 13, _, _ => rfl
  | 14, _, _ => rfl
  | k + 15, ho, _ => simp [okO] at ho
/-- the heap holds the ints M in the system's shape -/
def Mem (G : Gl) (M : Mm) (H : Heap) : Prop := ∀ o, okO o = true → va_at G.1 vwCl (G.2.1 o, ent G M o) H
def GI (G : Gl) : Prop := ∀ o o', okO o = true → okO o' = true → G.2.1 o = G.2.1 o' → o = o'
def AG (G : Gl) : Nat → Prop := fun a => ∃ o, okO o = true ∧ G.2.1 o = a
theorem Mem.put {G : Gl} {M : Mm} {H H1 : Heap} {o : Obj} {r i : Nat} {x : Int32} (hG : GI G) (hM : Mem G M H) (ho : okO o = true) (how : ow r i = o) (h1 : va_at G.1 vwCl (G.2.1 o, ent G (wr M r i x) o) H1) (oq : ∀ q : Nat, q ≠ G.2.1 o → H1[q]? = H[q]?) : Mem G (wr M r i x) H1 := by
  intro o' ho'
  by_cases h : o' = o
  · subst h; exact h1
  · have e : ent G (wr M r i x) o' = ent G M o' := ent_congr G ho' (fun r' i' hw => if_neg (by rintro ⟨rfl, rfl⟩; exact h (hw.symm.trans how)))
    rw [e]
    exact (hM o' ho').kept (oq _ (fun z => h (hG o' o ho' ho z)))
theorem Mem.ext {G : Gl} {M M' : Mm} {H : Heap} (hM : Mem G M H) (h : ∀ r i, okO (ow r i) = true → M r i = M' r i) : Mem G M' H := by
  intro o ho
  rw [← ent_congr G ho (fun r i hw => h r i (by rw [hw]; exact ho))]
  exact hM o ho
/-- the arrays' classes -/
def tysG (G : Gl) : List (ClassId × FieldType) := [(G.2.2 8, .char), (G.2.2 9, .int), (G.2.2 10, .object "ColdChain$Pallet"), (G.2.2 11, .object "ColdChain$State"), (G.2.2 12, .object "ColdChain$Van"), (G.2.2 13, .object "ColdChain$Zone"), (G.2.2 14, .array .int)]
def KK (G : Gl) (U : State) : Prop := va_K G.1 vwCl (tysG G) U ∧ ∀ w ∈ lw_tbl, wOK w = true → va_Nw w U
def warmF (j : Nat) : Int32 := if j = 0 then 3 else if j = 1 then 6 else 12
def SS (G : Gl) (A : Nat → Prop) (U : State) (H : Heap) : Prop := va_Z "ColdChain" "WARMING" "[I" (.ref (G.2.1 (15, 0, 0, 0))) A U H ∧ va_T .int (G.2.1 (15, 0, 0, 0)) 3 (fun j => .int (warmF j)) A U H
theorem wOK_warm {w : Cond} {s U : State} (h : wOK w = true) (hW : s.WarmedH U.vm) (hz : va_Nw w s) : va_Nw w U := by
  cases w with
  | fieldLinkNest a i b n d hh => exact va_Nw.warmF hW hz
  | methodLinkNest a i x hh => exact va_Nw.warmM hW hz
  | arrayOver t =>
    cases t with
    | object C => exact va_AO.moved (C := C) hW.alike hz
    | array C => exact over_moved hW.alike hz
    | _ => exact word_at hW (good_of_word h) hz
  | _ => exact word_at hW (good_of_word h) hz
theorem KK.warm {G : Gl} {s U : State} (h : KK G s) (hW : s.WarmedH U.vm) : KK G U := ⟨va_K.moved hW.alike h.1, fun w hw ho => wOK_warm ho hW (h.2 w hw ho)⟩
end
