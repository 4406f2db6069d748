section
-- ===== PART A: goes FIRST, ahead of the names: the tables' words, and 'selects' of the private methods out of them =====
/-- a private method of a class that the tables say can be made, by its rows of tables_1 -/
def lw_okq (q : MethodName × Nat) : Prop := (q.1.cls ≠ "java/lang/invoke/MethodHandle" ∧ q.1.cls ≠ "java/lang/invoke/VarHandle") ∧ Cond.instantiable q.1.cls q.2 ∈ tables_1 ∧ Cond.privateMethod q.1 ∈ tables_1 ∧ Cond.instanceMethod q.1 ∈ tables_1
theorem lw_p0 : lw_okq (⟨"ColdChain", "noteState", "()V"⟩, 7) := ⟨⟨by decide +kernel, by decide +kernel⟩, List.mem_of_getElem? (i := 12) (by decide +kernel), List.mem_of_getElem? (i := 251) (by decide +kernel), List.mem_of_getElem? (i := 252) (by decide +kernel)⟩
theorem lw_p1 : lw_okq (⟨"ColdChain", "kept", "(I)I"⟩, 7) := ⟨⟨by decide +kernel, by decide +kernel⟩, List.mem_of_getElem? (i := 12) (by decide +kernel), List.mem_of_getElem? (i := 291) (by decide +kernel), List.mem_of_getElem? (i := 292) (by decide +kernel)⟩
theorem lw_p2 : lw_okq (⟨"ColdChain$State", "palletsInZone", "(II)I"⟩, 8) := ⟨⟨by decide +kernel, by decide +kernel⟩, List.mem_of_getElem? (i := 20) (by decide +kernel), List.mem_of_getElem? (i := 362) (by decide +kernel), List.mem_of_getElem? (i := 363) (by decide +kernel)⟩
theorem lw_p3 : lw_okq (⟨"ColdChain$Van", "isOdd", "(II)Z"⟩, 5) := ⟨⟨by decide +kernel, by decide +kernel⟩, List.mem_of_getElem? (i := 29) (by decide +kernel), List.mem_of_getElem? (i := 425) (by decide +kernel), List.mem_of_getElem? (i := 426) (by decide +kernel)⟩
theorem lw_p4 : lw_okq (⟨"ColdChain$State", "shareByValues", "(II)V"⟩, 8) := ⟨⟨by decide +kernel, by decide +kernel⟩, List.mem_of_getElem? (i := 20) (by decide +kernel), List.mem_of_getElem? (i := 483) (by decide +kernel), List.mem_of_getElem? (i := 484) (by decide +kernel)⟩
theorem lw_p5 : lw_okq (⟨"ColdChain$State", "shareRest", "(II)I"⟩, 8) := ⟨⟨by decide +kernel, by decide +kernel⟩, List.mem_of_getElem? (i := 20) (by decide +kernel), List.mem_of_getElem? (i := 487) (by decide +kernel), List.mem_of_getElem? (i := 488) (by decide +kernel)⟩
theorem lw_p6 : lw_okq (⟨"ColdChain$Script", "skipSpaces", "()V"⟩, 7) := ⟨⟨by decide +kernel, by decide +kernel⟩, List.mem_of_getElem? (i := 191) (by decide +kernel), List.mem_of_getElem? (i := 515) (by decide +kernel), List.mem_of_getElem? (i := 516) (by decide +kernel)⟩
theorem lw_p7 : lw_okq (⟨"ColdChain$Script", "readCommand", "(I)Z"⟩, 7) := ⟨⟨by decide +kernel, by decide +kernel⟩, List.mem_of_getElem? (i := 191) (by decide +kernel), List.mem_of_getElem? (i := 519) (by decide +kernel), List.mem_of_getElem? (i := 520) (by decide +kernel)⟩
theorem lw_p8 : lw_okq (⟨"ColdChain$Script", "readNumber", "()I"⟩, 7) := ⟨⟨by decide +kernel, by decide +kernel⟩, List.mem_of_getElem? (i := 191) (by decide +kernel), List.mem_of_getElem? (i := 526) (by decide +kernel), List.mem_of_getElem? (i := 527) (by decide +kernel)⟩
theorem lw_p9 : lw_okq (⟨"ColdChain$Script", "readSign", "(C)Z"⟩, 7) := ⟨⟨by decide +kernel, by decide +kernel⟩, List.mem_of_getElem? (i := 191) (by decide +kernel), List.mem_of_getElem? (i := 533) (by decide +kernel), List.mem_of_getElem? (i := 534) (by decide +kernel)⟩
theorem lw_p10 : lw_okq (⟨"ColdChain", "runCommand", "(I)I"⟩, 7) := ⟨⟨by decide +kernel, by decide +kernel⟩, List.mem_of_getElem? (i := 12) (by decide +kernel), List.mem_of_getElem? (i := 538) (by decide +kernel), List.mem_of_getElem? (i := 539) (by decide +kernel)⟩
theorem lw_p11 : lw_okq (⟨"ColdChain", "mayBeOpen", "(II)Z"⟩, 7) := ⟨⟨by decide +kernel, by decide +kernel⟩, List.mem_of_getElem? (i := 12) (by decide +kernel), List.mem_of_getElem? (i := 617) (by decide +kernel), List.mem_of_getElem? (i := 618) (by decide +kernel)⟩
theorem lw_p12 : lw_okq (⟨"ColdChainModel", "hold", "()V"⟩, 12) := ⟨⟨by decide +kernel, by decide +kernel⟩, List.mem_of_getElem? (i := 629) (by decide +kernel), List.mem_of_getElem? (i := 684) (by decide +kernel), List.mem_of_getElem? (i := 685) (by decide +kernel)⟩
theorem lw_p13 : lw_okq (⟨"ColdChainModel", "ends", "(I)I"⟩, 12) := ⟨⟨by decide +kernel, by decide +kernel⟩, List.mem_of_getElem? (i := 629) (by decide +kernel), List.mem_of_getElem? (i := 694) (by decide +kernel), List.mem_of_getElem? (i := 695) (by decide +kernel)⟩
theorem lw_p14 : lw_okq (⟨"ColdChainModel", "isVan", "(I)Z"⟩, 12) := ⟨⟨by decide +kernel, by decide +kernel⟩, List.mem_of_getElem? (i := 629) (by decide +kernel), List.mem_of_getElem? (i := 709) (by decide +kernel), List.mem_of_getElem? (i := 710) (by decide +kernel)⟩
theorem lw_p15 : lw_okq (⟨"ColdChainModel", "of", "(II)I"⟩, 12) := ⟨⟨by decide +kernel, by decide +kernel⟩, List.mem_of_getElem? (i := 629) (by decide +kernel), List.mem_of_getElem? (i := 713) (by decide +kernel), List.mem_of_getElem? (i := 714) (by decide +kernel)⟩
def lw_privs_1 : List (MethodName × Nat) := [(⟨"ColdChain", "noteState", "()V"⟩, 7), (⟨"ColdChain", "kept", "(I)I"⟩, 7), (⟨"ColdChain$State", "palletsInZone", "(II)I"⟩, 8), (⟨"ColdChain$Van", "isOdd", "(II)Z"⟩, 5), (⟨"ColdChain$State", "shareByValues", "(II)V"⟩, 8), (⟨"ColdChain$State", "shareRest", "(II)I"⟩, 8), (⟨"ColdChain$Script", "skipSpaces", "()V"⟩, 7), (⟨"ColdChain$Script", "readCommand", "(I)Z"⟩, 7), (⟨"ColdChain$Script", "readNumber", "()I"⟩, 7), (⟨"ColdChain$Script", "readSign", "(C)Z"⟩, 7), (⟨"ColdChain", "runCommand", "(I)I"⟩, 7), (⟨"ColdChain", "mayBeOpen", "(II)Z"⟩, 7), (⟨"ColdChainModel", "hold", "()V"⟩, 12), (⟨"ColdChainModel", "ends", "(I)I"⟩, 12), (⟨"ColdChainModel", "isVan", "(I)Z"⟩, 12), (⟨"ColdChainModel", "of", "(II)I"⟩, 12)]
theorem lw_r1 : ∀ q ∈ lw_privs_1, lw_okq q := List.forall_mem_cons.mpr ⟨lw_p0, List.forall_mem_cons.mpr ⟨lw_p1, List.forall_mem_cons.mpr ⟨lw_p2, List.forall_mem_cons.mpr ⟨lw_p3, List.forall_mem_cons.mpr ⟨lw_p4, List.forall_mem_cons.mpr ⟨lw_p5, List.forall_mem_cons.mpr ⟨lw_p6, List.forall_mem_cons.mpr ⟨lw_p7, List.forall_mem_cons.mpr ⟨lw_p8, List.forall_mem_cons.mpr ⟨lw_p9, List.forall_mem_cons.mpr ⟨lw_p10, List.forall_mem_cons.mpr ⟨lw_p11, List.forall_mem_cons.mpr ⟨lw_p12, List.forall_mem_cons.mpr ⟨lw_p13, List.forall_mem_cons.mpr ⟨lw_p14, List.forall_mem_cons.mpr ⟨lw_p15, fun _ h => absurd h List.not_mem_nil⟩⟩⟩⟩⟩⟩⟩⟩⟩⟩⟩⟩⟩⟩⟩⟩
theorem lw_p16 : lw_okq (⟨"ColdChainModel", "at", "(III)I"⟩, 12) := ⟨⟨by decide +kernel, by decide +kernel⟩, List.mem_of_getElem? (i := 629) (by decide +kernel), List.mem_of_getElem? (i := 727) (by decide +kernel), List.mem_of_getElem? (i := 728) (by decide +kernel)⟩
theorem lw_p17 : lw_okq (⟨"ColdChainModel", "repairs", "(II)I"⟩, 12) := ⟨⟨by decide +kernel, by decide +kernel⟩, List.mem_of_getElem? (i := 629) (by decide +kernel), List.mem_of_getElem? (i := 735) (by decide +kernel), List.mem_of_getElem? (i := 736) (by decide +kernel)⟩
theorem lw_p18 : lw_okq (⟨"ColdChainModel", "done", "(I)I"⟩, 12) := ⟨⟨by decide +kernel, by decide +kernel⟩, List.mem_of_getElem? (i := 629) (by decide +kernel), List.mem_of_getElem? (i := 739) (by decide +kernel), List.mem_of_getElem? (i := 740) (by decide +kernel)⟩
theorem lw_p19 : lw_okq (⟨"ColdChainModel", "manyIn", "(II)I"⟩, 12) := ⟨⟨by decide +kernel, by decide +kernel⟩, List.mem_of_getElem? (i := 629) (by decide +kernel), List.mem_of_getElem? (i := 748) (by decide +kernel), List.mem_of_getElem? (i := 749) (by decide +kernel)⟩
theorem lw_p20 : lw_okq (⟨"ColdChainModel", "its", "(II)I"⟩, 12) := ⟨⟨by decide +kernel, by decide +kernel⟩, List.mem_of_getElem? (i := 629) (by decide +kernel), List.mem_of_getElem? (i := 752) (by decide +kernel), List.mem_of_getElem? (i := 753) (by decide +kernel)⟩
theorem lw_p21 : lw_okq (⟨"ColdChainModel", "doors", "(II)I"⟩, 12) := ⟨⟨by decide +kernel, by decide +kernel⟩, List.mem_of_getElem? (i := 629) (by decide +kernel), List.mem_of_getElem? (i := 763) (by decide +kernel), List.mem_of_getElem? (i := 764) (by decide +kernel)⟩
theorem lw_p22 : lw_okq (⟨"ColdChainModel", "inVan", "(I)I"⟩, 12) := ⟨⟨by decide +kernel, by decide +kernel⟩, List.mem_of_getElem? (i := 629) (by decide +kernel), List.mem_of_getElem? (i := 767) (by decide +kernel), List.mem_of_getElem? (i := 768) (by decide +kernel)⟩
theorem lw_p23 : lw_okq (⟨"ColdChainModel", "passes", "(I)I"⟩, 12) := ⟨⟨by decide +kernel, by decide +kernel⟩, List.mem_of_getElem? (i := 629) (by decide +kernel), List.mem_of_getElem? (i := 778) (by decide +kernel), List.mem_of_getElem? (i := 779) (by decide +kernel)⟩
theorem lw_p24 : lw_okq (⟨"ColdChainModel", "minute", "()I"⟩, 12) := ⟨⟨by decide +kernel, by decide +kernel⟩, List.mem_of_getElem? (i := 629) (by decide +kernel), List.mem_of_getElem? (i := 782) (by decide +kernel), List.mem_of_getElem? (i := 783) (by decide +kernel)⟩
theorem lw_p25 : lw_okq (⟨"ColdChainModel", "heats", "(I)V"⟩, 12) := ⟨⟨by decide +kernel, by decide +kernel⟩, List.mem_of_getElem? (i := 629) (by decide +kernel), List.mem_of_getElem? (i := 786) (by decide +kernel), List.mem_of_getElem? (i := 787) (by decide +kernel)⟩
theorem lw_p26 : lw_okq (⟨"ColdChainModel", "reads", "(I)I"⟩, 12) := ⟨⟨by decide +kernel, by decide +kernel⟩, List.mem_of_getElem? (i := 629) (by decide +kernel), List.mem_of_getElem? (i := 790) (by decide +kernel), List.mem_of_getElem? (i := 791) (by decide +kernel)⟩
theorem lw_p27 : lw_okq (⟨"ColdChainModel", "isOdd", "(II)Z"⟩, 12) := ⟨⟨by decide +kernel, by decide +kernel⟩, List.mem_of_getElem? (i := 629) (by decide +kernel), List.mem_of_getElem? (i := 794) (by decide +kernel), List.mem_of_getElem? (i := 795) (by decide +kernel)⟩
theorem lw_p28 : lw_okq (⟨"ColdChainModel", "reading", "(II)I"⟩, 12) := ⟨⟨by decide +kernel, by decide +kernel⟩, List.mem_of_getElem? (i := 629) (by decide +kernel), List.mem_of_getElem? (i := 798) (by decide +kernel), List.mem_of_getElem? (i := 799) (by decide +kernel)⟩
theorem lw_p29 : lw_okq (⟨"ColdChainModel", "warms", "(I)V"⟩, 12) := ⟨⟨by decide +kernel, by decide +kernel⟩, List.mem_of_getElem? (i := 629) (by decide +kernel), List.mem_of_getElem? (i := 805) (by decide +kernel), List.mem_of_getElem? (i := 806) (by decide +kernel)⟩
theorem lw_p30 : lw_okq (⟨"ColdChainModel", "told", "(II)I"⟩, 12) := ⟨⟨by decide +kernel, by decide +kernel⟩, List.mem_of_getElem? (i := 629) (by decide +kernel), List.mem_of_getElem? (i := 809) (by decide +kernel), List.mem_of_getElem? (i := 810) (by decide +kernel)⟩
theorem lw_p31 : lw_okq (⟨"ColdChainModel", "delivers", "(I)I"⟩, 12) := ⟨⟨by decide +kernel, by decide +kernel⟩, List.mem_of_getElem? (i := 629) (by decide +kernel), List.mem_of_getElem? (i := 817) (by decide +kernel), List.mem_of_getElem? (i := 818) (by decide +kernel)⟩
def lw_privs_2 : List (MethodName × Nat) := [(⟨"ColdChainModel", "at", "(III)I"⟩, 12), (⟨"ColdChainModel", "repairs", "(II)I"⟩, 12), (⟨"ColdChainModel", "done", "(I)I"⟩, 12), (⟨"ColdChainModel", "manyIn", "(II)I"⟩, 12), (⟨"ColdChainModel", "its", "(II)I"⟩, 12), (⟨"ColdChainModel", "doors", "(II)I"⟩, 12), (⟨"ColdChainModel", "inVan", "(I)I"⟩, 12), (⟨"ColdChainModel", "passes", "(I)I"⟩, 12), (⟨"ColdChainModel", "minute", "()I"⟩, 12), (⟨"ColdChainModel", "heats", "(I)V"⟩, 12), (⟨"ColdChainModel", "reads", "(I)I"⟩, 12), (⟨"ColdChainModel", "isOdd", "(II)Z"⟩, 12), (⟨"ColdChainModel", "reading", "(II)I"⟩, 12), (⟨"ColdChainModel", "warms", "(I)V"⟩, 12), (⟨"ColdChainModel", "told", "(II)I"⟩, 12), (⟨"ColdChainModel", "delivers", "(I)I"⟩, 12)]
theorem lw_r2 : ∀ q ∈ lw_privs_2, lw_okq q := List.forall_mem_cons.mpr ⟨lw_p16, List.forall_mem_cons.mpr ⟨lw_p17, List.forall_mem_cons.mpr ⟨lw_p18, List.forall_mem_cons.mpr ⟨lw_p19, List.forall_mem_cons.mpr ⟨lw_p20, List.forall_mem_cons.mpr ⟨lw_p21, List.forall_mem_cons.mpr ⟨lw_p22, List.forall_mem_cons.mpr ⟨lw_p23, List.forall_mem_cons.mpr ⟨lw_p24, List.forall_mem_cons.mpr ⟨lw_p25, List.forall_mem_cons.mpr ⟨lw_p26, List.forall_mem_cons.mpr ⟨lw_p27, List.forall_mem_cons.mpr ⟨lw_p28, List.forall_mem_cons.mpr ⟨lw_p29, List.forall_mem_cons.mpr ⟨lw_p30, List.forall_mem_cons.mpr ⟨lw_p31, fun _ h => absurd h List.not_mem_nil⟩⟩⟩⟩⟩⟩⟩⟩⟩⟩⟩⟩⟩⟩⟩⟩
theorem lw_p32 : lw_okq (⟨"ColdChainModel", "isPallet", "(I)Z"⟩, 12) := ⟨⟨by decide +kernel, by decide +kernel⟩, List.mem_of_getElem? (i := 629) (by decide +kernel), List.mem_of_getElem? (i := 821) (by decide +kernel), List.mem_of_getElem? (i := 822) (by decide +kernel)⟩
theorem lw_p33 : lw_okq (⟨"ColdChainModel", "isScript", "()Z"⟩, 12) := ⟨⟨by decide +kernel, by decide +kernel⟩, List.mem_of_getElem? (i := 629) (by decide +kernel), List.mem_of_getElem? (i := 841) (by decide +kernel), List.mem_of_getElem? (i := 842) (by decide +kernel)⟩
theorem lw_p34 : lw_okq (⟨"ColdChainModel", "skips", "()V"⟩, 12) := ⟨⟨by decide +kernel, by decide +kernel⟩, List.mem_of_getElem? (i := 629) (by decide +kernel), List.mem_of_getElem? (i := 845) (by decide +kernel), List.mem_of_getElem? (i := 846) (by decide +kernel)⟩
theorem lw_p35 : lw_okq (⟨"ColdChainModel", "isAt", "(II)Z"⟩, 12) := ⟨⟨by decide +kernel, by decide +kernel⟩, List.mem_of_getElem? (i := 629) (by decide +kernel), List.mem_of_getElem? (i := 849) (by decide +kernel), List.mem_of_getElem? (i := 850) (by decide +kernel)⟩
theorem lw_p36 : lw_okq (⟨"ColdChainModel", "isCommand", "()Z"⟩, 12) := ⟨⟨by decide +kernel, by decide +kernel⟩, List.mem_of_getElem? (i := 629) (by decide +kernel), List.mem_of_getElem? (i := 853) (by decide +kernel), List.mem_of_getElem? (i := 854) (by decide +kernel)⟩
theorem lw_p37 : lw_okq (⟨"ColdChainModel", "isFigure", "(I)Z"⟩, 12) := ⟨⟨by decide +kernel, by decide +kernel⟩, List.mem_of_getElem? (i := 629) (by decide +kernel), List.mem_of_getElem? (i := 857) (by decide +kernel), List.mem_of_getElem? (i := 858) (by decide +kernel)⟩
theorem lw_p38 : lw_okq (⟨"ColdChainModel", "takes", "(I)Z"⟩, 12) := ⟨⟨by decide +kernel, by decide +kernel⟩, List.mem_of_getElem? (i := 629) (by decide +kernel), List.mem_of_getElem? (i := 861) (by decide +kernel), List.mem_of_getElem? (i := 862) (by decide +kernel)⟩
theorem lw_p39 : lw_okq (⟨"ColdChainModel", "does", "()I"⟩, 12) := ⟨⟨by decide +kernel, by decide +kernel⟩, List.mem_of_getElem? (i := 629) (by decide +kernel), List.mem_of_getElem? (i := 866) (by decide +kernel), List.mem_of_getElem? (i := 867) (by decide +kernel)⟩
theorem lw_p40 : lw_okq (⟨"ColdChainModel", "cause", "(I)I"⟩, 12) := ⟨⟨by decide +kernel, by decide +kernel⟩, List.mem_of_getElem? (i := 629) (by decide +kernel), List.mem_of_getElem? (i := 887) (by decide +kernel), List.mem_of_getElem? (i := 888) (by decide +kernel)⟩
theorem lw_p41 : lw_okq (⟨"ColdChainModel", "claim", "(II)I"⟩, 12) := ⟨⟨by decide +kernel, by decide +kernel⟩, List.mem_of_getElem? (i := 629) (by decide +kernel), List.mem_of_getElem? (i := 895) (by decide +kernel), List.mem_of_getElem? (i := 896) (by decide +kernel)⟩
theorem lw_p42 : lw_okq (⟨"ColdChainModel", "entry", "(IIII)I"⟩, 12) := ⟨⟨by decide +kernel, by decide +kernel⟩, List.mem_of_getElem? (i := 629) (by decide +kernel), List.mem_of_getElem? (i := 903) (by decide +kernel), List.mem_of_getElem? (i := 904) (by decide +kernel)⟩
theorem lw_p43 : lw_okq (⟨"ColdChainModel", "mayBeOpen", "(II)Z"⟩, 12) := ⟨⟨by decide +kernel, by decide +kernel⟩, List.mem_of_getElem? (i := 629) (by decide +kernel), List.mem_of_getElem? (i := 920) (by decide +kernel), List.mem_of_getElem? (i := 921) (by decide +kernel)⟩
def lw_privs_3 : List (MethodName × Nat) := [(⟨"ColdChainModel", "isPallet", "(I)Z"⟩, 12), (⟨"ColdChainModel", "isScript", "()Z"⟩, 12), (⟨"ColdChainModel", "skips", "()V"⟩, 12), (⟨"ColdChainModel", "isAt", "(II)Z"⟩, 12), (⟨"ColdChainModel", "isCommand", "()Z"⟩, 12), (⟨"ColdChainModel", "isFigure", "(I)Z"⟩, 12), (⟨"ColdChainModel", "takes", "(I)Z"⟩, 12), (⟨"ColdChainModel", "does", "()I"⟩, 12), (⟨"ColdChainModel", "cause", "(I)I"⟩, 12), (⟨"ColdChainModel", "claim", "(II)I"⟩, 12), (⟨"ColdChainModel", "entry", "(IIII)I"⟩, 12), (⟨"ColdChainModel", "mayBeOpen", "(II)Z"⟩, 12)]
theorem lw_r3 : ∀ q ∈ lw_privs_3, lw_okq q := List.forall_mem_cons.mpr ⟨lw_p32, List.forall_mem_cons.mpr ⟨lw_p33, List.forall_mem_cons.mpr ⟨lw_p34, List.forall_mem_cons.mpr ⟨lw_p35, List.forall_mem_cons.mpr ⟨lw_p36, List.forall_mem_cons.mpr ⟨lw_p37, List.forall_mem_cons.mpr ⟨lw_p38, List.forall_mem_cons.mpr ⟨lw_p39, List.forall_mem_cons.mpr ⟨lw_p40, List.forall_mem_cons.mpr ⟨lw_p41, List.forall_mem_cons.mpr ⟨lw_p42, List.forall_mem_cons.mpr ⟨lw_p43, fun _ h => absurd h List.not_mem_nil⟩⟩⟩⟩⟩⟩⟩⟩⟩⟩⟩⟩
def lw_privs : List (MethodName × Nat) := lw_privs_1 ++ (lw_privs_2 ++ (lw_privs_3))
def lw_tbl : List Cond := k2_sels lw_privs ++ tables_1
theorem lw_privs_ok : ∀ q ∈ lw_privs, lw_okq q := by
  show ∀ q ∈ lw_privs_1 ++ (lw_privs_2 ++ (lw_privs_3)), lw_okq q
  exact List.forall_mem_append.mpr ⟨lw_r1, List.forall_mem_append.mpr ⟨lw_r2, lw_r3⟩⟩
/-- words that hold in every warmer state -/
def wOK : Cond → Bool
  | .fieldLinkNest .. => true
  | .methodLinkNest .. => true
  | .arrayOver (.object _) => true
  | .arrayOver (.array _) => true
  | w => goodWord w
def RX0 : String := "ColdChain$History"
def TX0 : u_T := fun k => match k with
  | 0 => ("ColdChain$History", "temperatures", "[[I", true)
  | _ => ("ColdChain$History", "toldOnes", "[[I", true)
def tyX0 : Nat → FieldType := fun k => match k with
  | 0 => .array (.array .int)
  | _ => .array (.array .int)
abbrev wsX00 : List Cond := u_ws RX0 TX0 2
set_option maxRecDepth 100000 in
theorem inX0 : ∀ w ∈ u_ws RX0 TX0 2, w ∈ lw_tbl := by decide +kernel
theorem nmX0 : ∀ a, a < 2 → ∀ b, b < 2 → a ≠ b → (TX0 a).2.1 ≠ (TX0 b).2.1 := by decide +kernel
theorem tyX0_ok : ∀ k, k < 2 → parseFieldDescriptor (TX0 k).2.2.1 = some (tyX0 k) := by decide +kernel
abbrev cX0_init : ByteArray := prog_2_method_1_code
def yX0_init : MethodName := ⟨RX0, "<init>", "()V"⟩
abbrev cX0_write : ByteArray := prog_2_method_2_code
def yX0_write : MethodName := ⟨RX0, "write", "(IILColdChain$Van;)V"⟩
abbrev cX0_row : ByteArray := prog_2_method_3_code
def yX0_row : MethodName := ⟨RX0, "row", "(III)[I"⟩
def RX1 : String := "ColdChain$Pallet"
def TX1 : u_T := fun k => match k with
  | 0 => ("ColdChain$Pallet", "van", "I", false)
  | 1 => ("ColdChain$Pallet", "zone", "I", false)
  | 2 => ("ColdChain$Pallet", "limit", "I", false)
  | 3 => ("ColdChain$Pallet", "allowance", "I", false)
  | 4 => ("ColdChain$Pallet", "value", "I", false)
  | 5 => ("ColdChain$Pallet", "state", "I", false)
  | 6 => ("ColdChain$Pallet", "openMinutes", "I", false)
  | 7 => ("ColdChain$Pallet", "closedMinutes", "I", false)
  | 8 => ("ColdChain$Pallet", "toldMinutes", "I", false)
  | _ => ("ColdChain$Pallet", "part", "I", false)
def tyX1 : Nat → FieldType := fun k => match k with
  | 0 => .int
  | 1 => .int
  | 2 => .int
  | 3 => .int
  | 4 => .int
  | 5 => .int
  | 6 => .int
  | 7 => .int
  | 8 => .int
  | _ => .int
abbrev wsX10 : List Cond := u_ws RX1 TX1 10
set_option maxRecDepth 100000 in
theorem inX1 : ∀ w ∈ u_ws RX1 TX1 10, w ∈ lw_tbl := by decide +kernel
theorem nmX1 : ∀ a, a < 10 → ∀ b, b < 10 → a ≠ b → (TX1 a).2.1 ≠ (TX1 b).2.1 := by decide +kernel
theorem tyX1_ok : ∀ k, k < 10 → parseFieldDescriptor (TX1 k).2.2.1 = some (tyX1 k) := by decide +kernel
abbrev cX1_init : ByteArray := prog_3_method_1_code
def yX1_init : MethodName := ⟨RX1, "<init>", "()V"⟩
abbrev cX1_copyFrom : ByteArray := prog_3_method_2_code
def yX1_copyFrom : MethodName := ⟨RX1, "copyFrom", "(LColdChain$Pallet;)V"⟩
abbrev cX1_start : ByteArray := prog_3_method_3_code
def yX1_start : MethodName := ⟨RX1, "start", "(IIIII)V"⟩
abbrev cX1_isIn : ByteArray := prog_3_method_4_code
def yX1_isIn : MethodName := ⟨RX1, "isIn", "(I)Z"⟩
abbrev cX1_isOverdue : ByteArray := prog_3_method_5_code
def yX1_isOverdue : MethodName := ⟨RX1, "isOverdue", "()Z"⟩
abbrev cX1_addMinute : ByteArray := prog_3_method_6_code
def yX1_addMinute : MethodName := ⟨RX1, "addMinute", "(LColdChain$Van;)V"⟩
abbrev cX1_wasRejected : ByteArray := prog_3_method_7_code
def yX1_wasRejected : MethodName := ⟨RX1, "wasRejected", "()Z"⟩
abbrev cX1_cause : ByteArray := prog_3_method_8_code
def yX1_cause : MethodName := ⟨RX1, "cause", "()I"⟩
abbrev cX1_claim : ByteArray := prog_3_method_9_code
def yX1_claim : MethodName := ⟨RX1, "claim", "()I"⟩
abbrev cX1_claimBy : ByteArray := prog_3_method_10_code
def yX1_claimBy : MethodName := ⟨RX1, "claimBy", "(I)I"⟩
abbrev cX1_property : ByteArray := prog_3_method_11_code
def yX1_property : MethodName := ⟨RX1, "property", "(I)I"⟩
def RX2 : String := "ColdChain$Script"
def TX2 : u_T := fun k => match k with
  | 0 => ("ColdChain$Script", "text", "[C", true)
  | 1 => ("ColdChain$Script", "length", "I", false)
  | 2 => ("ColdChain$Script", "at", "I", false)
  | 3 => ("ColdChain$Script", "letters", "[I", true)
  | 4 => ("ColdChain$Script", "firsts", "[I", true)
  | 5 => ("ColdChain$Script", "seconds", "[I", true)
  | _ => ("ColdChain$Script", "commandCount", "I", false)
def tyX2 : Nat → FieldType := fun k => match k with
  | 0 => .array .char
  | 1 => .int
  | 2 => .int
  | 3 => .array .int
  | 4 => .array .int
  | 5 => .array .int
  | _ => .int
abbrev wsX20 : List Cond := u_ws RX2 TX2 7
set_option maxRecDepth 100000 in
theorem inX2 : ∀ w ∈ u_ws RX2 TX2 7, w ∈ lw_tbl := by decide +kernel
theorem nmX2 : ∀ a, a < 7 → ∀ b, b < 7 → a ≠ b → (TX2 a).2.1 ≠ (TX2 b).2.1 := by decide +kernel
theorem tyX2_ok : ∀ k, k < 7 → parseFieldDescriptor (TX2 k).2.2.1 = some (tyX2 k) := by decide +kernel
abbrev cX2_init : ByteArray := prog_4_method_1_code
def yX2_init : MethodName := ⟨RX2, "<init>", "()V"⟩
abbrev cX2_append : ByteArray := prog_4_method_2_code
def yX2_append : MethodName := ⟨RX2, "append", "(I)I"⟩
abbrev cX2_read : ByteArray := prog_4_method_3_code
def yX2_read : MethodName := ⟨RX2, "read", "()I"⟩
abbrev cX2_readCommand : ByteArray := prog_4_method_4_code
def yX2_readCommand : MethodName := ⟨RX2, "readCommand", "(I)Z"⟩
abbrev cX2_readNumber : ByteArray := prog_4_method_5_code
def yX2_readNumber : MethodName := ⟨RX2, "readNumber", "()I"⟩
abbrev cX2_readSign : ByteArray := prog_4_method_6_code
def yX2_readSign : MethodName := ⟨RX2, "readSign", "(C)Z"⟩
abbrev cX2_skipSpaces : ByteArray := prog_4_method_7_code
def yX2_skipSpaces : MethodName := ⟨RX2, "skipSpaces", "()V"⟩
abbrev cX2_isLetter : ByteArray := prog_4_method_8_code
def yX2_isLetter : MethodName := ⟨RX2, "isLetter", "(C)Z"⟩
abbrev cX2_isDigit : ByteArray := prog_4_method_9_code
def yX2_isDigit : MethodName := ⟨RX2, "isDigit", "(C)Z"⟩
def RX3 : String := "ColdChain$State"
def TX3 : u_T := fun k => match k with
  | 0 => ("ColdChain$State", "time", "I", false)
  | 1 => ("ColdChain$State", "outside", "I", false)
  | 2 => ("ColdChain$State", "difference", "I", false)
  | 3 => ("ColdChain$State", "patience", "I", false)
  | 4 => ("ColdChain$State", "vanCount", "I", false)
  | 5 => ("ColdChain$State", "palletCount", "I", false)
  | 6 => ("ColdChain$State", "vans", "[LColdChain$Van;", true)
  | _ => ("ColdChain$State", "pallets", "[LColdChain$Pallet;", true)
def tyX3 : Nat → FieldType := fun k => match k with
  | 0 => .int
  | 1 => .int
  | 2 => .int
  | 3 => .int
  | 4 => .int
  | 5 => .int
  | 6 => .array (.object "ColdChain$Van")
  | _ => .array (.object "ColdChain$Pallet")
abbrev wsX30 : List Cond := u_ws RX3 TX3 8
set_option maxRecDepth 100000 in
theorem inX3 : ∀ w ∈ u_ws RX3 TX3 8, w ∈ lw_tbl := by decide +kernel
theorem nmX3 : ∀ a, a < 8 → ∀ b, b < 8 → a ≠ b → (TX3 a).2.1 ≠ (TX3 b).2.1 := by decide +kernel
theorem tyX3_ok : ∀ k, k < 8 → parseFieldDescriptor (TX3 k).2.2.1 = some (tyX3 k) := by decide +kernel
abbrev cX3_init : ByteArray := prog_5_method_1_code
def yX3_init : MethodName := ⟨RX3, "<init>", "()V"⟩
abbrev cX3_copyFrom : ByteArray := prog_5_method_2_code
def yX3_copyFrom : MethodName := ⟨RX3, "copyFrom", "(LColdChain$State;)V"⟩
abbrev cX3_hasVan : ByteArray := prog_5_method_3_code
def yX3_hasVan : MethodName := ⟨RX3, "hasVan", "(I)Z"⟩
abbrev cX3_hasZone : ByteArray := prog_5_method_4_code
def yX3_hasZone : MethodName := ⟨RX3, "hasZone", "(II)Z"⟩
abbrev cX3_hasPallet : ByteArray := prog_5_method_5_code
def yX3_hasPallet : MethodName := ⟨RX3, "hasPallet", "(I)Z"⟩
abbrev cX3_foundProbes : ByteArray := prog_5_method_6_code
def yX3_foundProbes : MethodName := ⟨RX3, "foundProbes", "()I"⟩
abbrev cX3_palletsIn : ByteArray := prog_5_method_7_code
def yX3_palletsIn : MethodName := ⟨RX3, "palletsIn", "(I)I"⟩
abbrev cX3_palletsInZone : ByteArray := prog_5_method_8_code
def yX3_palletsInZone : MethodName := ⟨RX3, "palletsInZone", "(II)I"⟩
abbrev cX3_hasOverdue : ByteArray := prog_5_method_9_code
def yX3_hasOverdue : MethodName := ⟨RX3, "hasOverdue", "(I)Z"⟩
abbrev cX3_putVan : ByteArray := prog_5_method_10_code
def yX3_putVan : MethodName := ⟨RX3, "putVan", "(II)I"⟩
abbrev cX3_changeNumber : ByteArray := prog_5_method_11_code
def yX3_changeNumber : MethodName := ⟨RX3, "changeNumber", "(II)I"⟩
abbrev cX3_changeVan : ByteArray := prog_5_method_12_code
def yX3_changeVan : MethodName := ⟨RX3, "changeVan", "(III)I"⟩
abbrev cX3_changeProbe : ByteArray := prog_5_method_13_code
def yX3_changeProbe : MethodName := ⟨RX3, "changeProbe", "(IIII)I"⟩
abbrev cX3_mendProbe : ByteArray := prog_5_method_14_code
def yX3_mendProbe : MethodName := ⟨RX3, "mendProbe", "(II)I"⟩
abbrev cX3_putPallet : ByteArray := prog_5_method_15_code
def yX3_putPallet : MethodName := ⟨RX3, "putPallet", "(IIIII)I"⟩
abbrev cX3_turnDoor : ByteArray := prog_5_method_16_code
def yX3_turnDoor : MethodName := ⟨RX3, "turnDoor", "(II)I"⟩
abbrev cX3_letPass : ByteArray := prog_5_method_17_code
def yX3_letPass : MethodName := ⟨RX3, "letPass", "(ILColdChain$History;)I"⟩
abbrev cX3_minuteInVan : ByteArray := prog_5_method_18_code
def yX3_minuteInVan : MethodName := ⟨RX3, "minuteInVan", "(I)I"⟩
abbrev cX3_handOver : ByteArray := prog_5_method_19_code
def yX3_handOver : MethodName := ⟨RX3, "handOver", "(I)I"⟩
abbrev cX3_bringBack : ByteArray := prog_5_method_20_code
def yX3_bringBack : MethodName := ⟨RX3, "bringBack", "(II)I"⟩
abbrev cX3_isIn : ByteArray := prog_5_method_21_code
def yX3_isIn : MethodName := ⟨RX3, "isIn", "(II)Z"⟩
abbrev cX3_shareByValues : ByteArray := prog_5_method_22_code
def yX3_shareByValues : MethodName := ⟨RX3, "shareByValues", "(II)V"⟩
abbrev cX3_shareRest : ByteArray := prog_5_method_23_code
def yX3_shareRest : MethodName := ⟨RX3, "shareRest", "(II)I"⟩
def RX4 : String := "ColdChain$Van"
def TX4 : u_T := fun k => match k with
  | 0 => ("ColdChain$Van", "setPoint", "I", false)
  | 1 => ("ColdChain$Van", "cooling", "I", false)
  | 2 => ("ColdChain$Van", "open", "Z", false)
  | 3 => ("ColdChain$Van", "addedAt", "I", false)
  | _ => ("ColdChain$Van", "zones", "[LColdChain$Zone;", true)
def tyX4 : Nat → FieldType := fun k => match k with
  | 0 => .int
  | 1 => .int
  | 2 => .boolean
  | 3 => .int
  | _ => .array (.object "ColdChain$Zone")
abbrev wsX40 : List Cond := u_ws RX4 TX4 5
set_option maxRecDepth 100000 in
theorem inX4 : ∀ w ∈ u_ws RX4 TX4 5, w ∈ lw_tbl := by decide +kernel
theorem nmX4 : ∀ a, a < 5 → ∀ b, b < 5 → a ≠ b → (TX4 a).2.1 ≠ (TX4 b).2.1 := by decide +kernel
theorem tyX4_ok : ∀ k, k < 5 → parseFieldDescriptor (TX4 k).2.2.1 = some (tyX4 k) := by decide +kernel
abbrev cX4_init : ByteArray := prog_6_method_1_code
def yX4_init : MethodName := ⟨RX4, "<init>", "()V"⟩
abbrev cX4_copyFrom : ByteArray := prog_6_method_2_code
def yX4_copyFrom : MethodName := ⟨RX4, "copyFrom", "(LColdChain$Van;)V"⟩
abbrev cX4_start : ByteArray := prog_6_method_3_code
def yX4_start : MethodName := ⟨RX4, "start", "(III)V"⟩
abbrev cX4_changeTemperatures : ByteArray := prog_6_method_4_code
def yX4_changeTemperatures : MethodName := ⟨RX4, "changeTemperatures", "(I)V"⟩
abbrev cX4_mixAir : ByteArray := prog_6_method_5_code
def yX4_mixAir : MethodName := ⟨RX4, "mixAir", "()V"⟩
abbrev cX4_findProbes : ByteArray := prog_6_method_6_code
def yX4_findProbes : MethodName := ⟨RX4, "findProbes", "(II)I"⟩
abbrev cX4_isOdd : ByteArray := prog_6_method_7_code
def yX4_isOdd : MethodName := ⟨RX4, "isOdd", "(II)Z"⟩
abbrev cX4_toldIn : ByteArray := prog_6_method_8_code
def yX4_toldIn : MethodName := ⟨RX4, "toldIn", "(I)I"⟩
def RX5 : String := "ColdChain$Zone"
def TX5 : u_T := fun k => match k with
  | 0 => ("ColdChain$Zone", "temperature", "I", false)
  | 1 => ("ColdChain$Zone", "mode", "I", false)
  | 2 => ("ColdChain$Zone", "value", "I", false)
  | 3 => ("ColdChain$Zone", "found", "Z", false)
  | _ => ("ColdChain$Zone", "oddMinutes", "I", false)
def tyX5 : Nat → FieldType := fun k => match k with
  | 0 => .int
  | 1 => .int
  | 2 => .int
  | 3 => .boolean
  | _ => .int
abbrev wsX50 : List Cond := u_ws RX5 TX5 5
set_option maxRecDepth 100000 in
theorem inX5 : ∀ w ∈ u_ws RX5 TX5 5, w ∈ lw_tbl := by decide +kernel
theorem nmX5 : ∀ a, a < 5 → ∀ b, b < 5 → a ≠ b → (TX5 a).2.1 ≠ (TX5 b).2.1 := by decide +kernel
theorem tyX5_ok : ∀ k, k < 5 → parseFieldDescriptor (TX5 k).2.2.1 = some (tyX5 k) := by decide +kernel
abbrev cX5_init : ByteArray := prog_7_method_1_code
def yX5_init : MethodName := ⟨RX5, "<init>", "()V"⟩
abbrev cX5_copyFrom : ByteArray := prog_7_method_2_code
def yX5_copyFrom : MethodName := ⟨RX5, "copyFrom", "(LColdChain$Zone;)V"⟩
abbrev cX5_mend : ByteArray := prog_7_method_3_code
def yX5_mend : MethodName := ⟨RX5, "mend", "()V"⟩
abbrev cX5_reading : ByteArray := prog_7_method_4_code
def yX5_reading : MethodName := ⟨RX5, "reading", "()I"⟩
abbrev cX5_coolTo : ByteArray := prog_7_method_5_code
def yX5_coolTo : MethodName := ⟨RX5, "coolTo", "(II)V"⟩
def RX6 : String := "ColdChain"
def TX6 : u_T := fun k => match k with
  | 0 => ("ColdChain", "now", "LColdChain$State;", true)
  | 1 => ("ColdChain", "trial", "LColdChain$State;", true)
  | 2 => ("ColdChain", "saved", "[LColdChain$State;", true)
  | 3 => ("ColdChain", "free", "I", false)
  | 4 => ("ColdChain", "savedCount", "I", false)
  | 5 => ("ColdChain", "history", "LColdChain$History;", true)
  | _ => ("ColdChain", "script", "LColdChain$Script;", true)
def tyX6 : Nat → FieldType := fun k => match k with
  | 0 => .object "ColdChain$State"
  | 1 => .object "ColdChain$State"
  | 2 => .array (.object "ColdChain$State")
  | 3 => .int
  | 4 => .int
  | 5 => .object "ColdChain$History"
  | _ => .object "ColdChain$Script"
abbrev wsX60 : List Cond := u_ws RX6 TX6 7
set_option maxRecDepth 100000 in
theorem inX6 : ∀ w ∈ u_ws RX6 TX6 7, w ∈ lw_tbl := by decide +kernel
theorem nmX6 : ∀ a, a < 7 → ∀ b, b < 7 → a ≠ b → (TX6 a).2.1 ≠ (TX6 b).2.1 := by decide +kernel
theorem tyX6_ok : ∀ k, k < 7 → parseFieldDescriptor (TX6 k).2.2.1 = some (tyX6 k) := by decide +kernel
abbrev cX6_init : ByteArray := prog_1_method_1_code
def yX6_init : MethodName := ⟨RX6, "<init>", "()V"⟩
abbrev cX6_addVan : ByteArray := prog_1_method_2_code
def yX6_addVan : MethodName := ⟨RX6, "addVan", "(II)I"⟩
abbrev cX6_setNumber : ByteArray := prog_1_method_3_code
def yX6_setNumber : MethodName := ⟨RX6, "setNumber", "(II)I"⟩
abbrev cX6_setVan : ByteArray := prog_1_method_4_code
def yX6_setVan : MethodName := ⟨RX6, "setVan", "(III)I"⟩
abbrev cX6_setProbe : ByteArray := prog_1_method_5_code
def yX6_setProbe : MethodName := ⟨RX6, "setProbe", "(IIII)I"⟩
abbrev cX6_repair : ByteArray := prog_1_method_6_code
def yX6_repair : MethodName := ⟨RX6, "repair", "(II)I"⟩
abbrev cX6_loadPallet : ByteArray := prog_1_method_7_code
def yX6_loadPallet : MethodName := ⟨RX6, "loadPallet", "(IIIII)I"⟩
abbrev cX6_door : ByteArray := prog_1_method_8_code
def yX6_door : MethodName := ⟨RX6, "door", "(II)I"⟩
abbrev cX6_pass : ByteArray := prog_1_method_9_code
def yX6_pass : MethodName := ⟨RX6, "pass", "(I)I"⟩
abbrev cX6_deliver : ByteArray := prog_1_method_10_code
def yX6_deliver : MethodName := ⟨RX6, "deliver", "(I)I"⟩
abbrev cX6_detour : ByteArray := prog_1_method_11_code
def yX6_detour : MethodName := ⟨RX6, "detour", "(II)I"⟩
abbrev cX6_appendCharacter : ByteArray := prog_1_method_12_code
def yX6_appendCharacter : MethodName := ⟨RX6, "appendCharacter", "(I)I"⟩
abbrev cX6_clearText : ByteArray := prog_1_method_13_code
def yX6_clearText : MethodName := ⟨RX6, "clearText", "()I"⟩
abbrev cX6_runScript : ByteArray := prog_1_method_14_code
def yX6_runScript : MethodName := ⟨RX6, "runScript", "()I"⟩
abbrev cX6_count : ByteArray := prog_1_method_15_code
def yX6_count : MethodName := ⟨RX6, "count", "(I)I"⟩
abbrev cX6_van : ByteArray := prog_1_method_16_code
def yX6_van : MethodName := ⟨RX6, "van", "(II)I"⟩
abbrev cX6_zone : ByteArray := prog_1_method_17_code
def yX6_zone : MethodName := ⟨RX6, "zone", "(III)I"⟩
abbrev cX6_pallet : ByteArray := prog_1_method_18_code
def yX6_pallet : MethodName := ⟨RX6, "pallet", "(II)I"⟩
abbrev cX6_claims : ByteArray := prog_1_method_19_code
def yX6_claims : MethodName := ⟨RX6, "claims", "(I)I"⟩
abbrev cX6_log : ByteArray := prog_1_method_20_code
def yX6_log : MethodName := ⟨RX6, "log", "(IIII)I"⟩
abbrev cX6_warm : ByteArray := prog_1_method_21_code
def yX6_warm : MethodName := ⟨RX6, "warm", "(IIIIII)I"⟩
abbrev cX6_minutesLeft : ByteArray := prog_1_method_22_code
def yX6_minutesLeft : MethodName := ⟨RX6, "minutesLeft", "(I)I"⟩
abbrev cX6_longestOpen : ByteArray := prog_1_method_23_code
def yX6_longestOpen : MethodName := ⟨RX6, "longestOpen", "(I)I"⟩
abbrev cX6_undo : ByteArray := prog_1_method_24_code
def yX6_undo : MethodName := ⟨RX6, "undo", "()I"⟩
abbrev cX6_noteState : ByteArray := prog_1_method_25_code
def yX6_noteState : MethodName := ⟨RX6, "noteState", "()V"⟩
abbrev cX6_kept : ByteArray := prog_1_method_26_code
def yX6_kept : MethodName := ⟨RX6, "kept", "(I)I"⟩
abbrev cX6_isError : ByteArray := prog_1_method_27_code
def yX6_isError : MethodName := ⟨RX6, "isError", "(I)Z"⟩
abbrev cX6_runCommand : ByteArray := prog_1_method_28_code
def yX6_runCommand : MethodName := ⟨RX6, "runCommand", "(I)I"⟩
abbrev cX6_mayBeOpen : ByteArray := prog_1_method_29_code
def yX6_mayBeOpen : MethodName := ⟨RX6, "mayBeOpen", "(II)Z"⟩
abbrev cX6_isWithin : ByteArray := prog_1_method_30_code
def yX6_isWithin : MethodName := ⟨RX6, "isWithin", "(III)Z"⟩
abbrev cX6_isVanSetting : ByteArray := prog_1_method_31_code
def yX6_isVanSetting : MethodName := ⟨RX6, "isVanSetting", "(II)Z"⟩
abbrev cX6_isProbeSetting : ByteArray := prog_1_method_32_code
def yX6_isProbeSetting : MethodName := ⟨RX6, "isProbeSetting", "(II)Z"⟩
abbrev cX6_isLimit : ByteArray := prog_1_method_33_code
def yX6_isLimit : MethodName := ⟨RX6, "isLimit", "(I)Z"⟩
abbrev cX6_isPrice : ByteArray := prog_1_method_34_code
def yX6_isPrice : MethodName := ⟨RX6, "isPrice", "(I)Z"⟩
def RX7 : String := "ColdChainModel"
def TX7 : u_T := fun k => match k with
  | 0 => ("ColdChainModel", "s", "[I", true)
  | 1 => ("ColdChainModel", "past", "[I", true)
  | 2 => ("ColdChainModel", "aside", "[I", true)
  | 3 => ("ColdChainModel", "kept", "[I", true)
  | 4 => ("ColdChainModel", "pasts", "I", false)
  | 5 => ("ColdChainModel", "log", "[I", true)
  | 6 => ("ColdChainModel", "isReal", "Z", false)
  | 7 => ("ColdChainModel", "text", "[I", true)
  | 8 => ("ColdChainModel", "typed", "I", false)
  | 9 => ("ColdChainModel", "spot", "I", false)
  | 10 => ("ColdChainModel", "letter", "I", false)
  | _ => ("ColdChainModel", "numbers", "[I", true)
def tyX7 : Nat → FieldType := fun k => match k with
  | 0 => .array .int
  | 1 => .array .int
  | 2 => .array .int
  | 3 => .array .int
  | 4 => .int
  | 5 => .array .int
  | 6 => .boolean
  | 7 => .array .int
  | 8 => .int
  | 9 => .int
  | 10 => .int
  | _ => .array .int
abbrev wsX70 : List Cond := u_ws RX7 TX7 12
set_option maxRecDepth 100000 in
theorem inX7 : ∀ w ∈ u_ws RX7 TX7 12, w ∈ lw_tbl := by decide +kernel
theorem nmX7 : ∀ a, a < 12 → ∀ b, b < 12 → a ≠ b → (TX7 a).2.1 ≠ (TX7 b).2.1 := by decide +kernel
theorem tyX7_ok : ∀ k, k < 12 → parseFieldDescriptor (TX7 k).2.2.1 = some (tyX7 k) := by decide +kernel
abbrev cX7_init : ByteArray := prog_9_method_1_code
def yX7_init : MethodName := ⟨RX7, "<init>", "()V"⟩
abbrev cX7_in : ByteArray := prog_9_method_3_code
def yX7_in : MethodName := ⟨RX7, "in", "(III)Z"⟩
abbrev cX7_copies : ByteArray := prog_9_method_4_code
def yX7_copies : MethodName := ⟨RX7, "copies", "([I[I)V"⟩
abbrev cX7_hold : ByteArray := prog_9_method_5_code
def yX7_hold : MethodName := ⟨RX7, "hold", "()V"⟩
abbrev cX7_ends : ByteArray := prog_9_method_6_code
def yX7_ends : MethodName := ⟨RX7, "ends", "(I)I"⟩
abbrev cX7_isVan : ByteArray := prog_9_method_7_code
def yX7_isVan : MethodName := ⟨RX7, "isVan", "(I)Z"⟩
abbrev cX7_isZone : ByteArray := prog_9_method_8_code
def yX7_isZone : MethodName := ⟨RX7, "isZone", "(I)Z"⟩
abbrev cX7_isPallet : ByteArray := prog_9_method_9_code
def yX7_isPallet : MethodName := ⟨RX7, "isPallet", "(I)Z"⟩
abbrev cX7_of : ByteArray := prog_9_method_10_code
def yX7_of : MethodName := ⟨RX7, "of", "(II)I"⟩
abbrev cX7_zoneSpot : ByteArray := prog_9_method_11_code
def yX7_zoneSpot : MethodName := ⟨RX7, "zoneSpot", "(II)I"⟩
abbrev cX7_at : ByteArray := prog_9_method_12_code
def yX7_at : MethodName := ⟨RX7, "at", "(III)I"⟩
abbrev cX7_palletSpot : ByteArray := prog_9_method_13_code
def yX7_palletSpot : MethodName := ⟨RX7, "palletSpot", "(I)I"⟩
abbrev cX7_its : ByteArray := prog_9_method_14_code
def yX7_its : MethodName := ⟨RX7, "its", "(II)I"⟩
abbrev cX7_reading : ByteArray := prog_9_method_15_code
def yX7_reading : MethodName := ⟨RX7, "reading", "(II)I"⟩
abbrev cX7_told : ByteArray := prog_9_method_16_code
def yX7_told : MethodName := ⟨RX7, "told", "(II)I"⟩
abbrev cX7_apart : ByteArray := prog_9_method_17_code
def yX7_apart : MethodName := ⟨RX7, "apart", "(II)I"⟩
abbrev cX7_isOdd : ByteArray := prog_9_method_18_code
def yX7_isOdd : MethodName := ⟨RX7, "isOdd", "(II)Z"⟩
abbrev cX7_heats : ByteArray := prog_9_method_19_code
def yX7_heats : MethodName := ⟨RX7, "heats", "(I)V"⟩
abbrev cX7_reads : ByteArray := prog_9_method_20_code
def yX7_reads : MethodName := ⟨RX7, "reads", "(I)I"⟩
abbrev cX7_warms : ByteArray := prog_9_method_21_code
def yX7_warms : MethodName := ⟨RX7, "warms", "(I)V"⟩
abbrev cX7_minute : ByteArray := prog_9_method_22_code
def yX7_minute : MethodName := ⟨RX7, "minute", "()I"⟩
abbrev cX7_inVan : ByteArray := prog_9_method_23_code
def yX7_inVan : MethodName := ⟨RX7, "inVan", "(I)I"⟩
abbrev cX7_bits : ByteArray := prog_9_method_24_code
def yX7_bits : MethodName := ⟨RX7, "bits", "(I)I"⟩
abbrev cX7_doors : ByteArray := prog_9_method_25_code
def yX7_doors : MethodName := ⟨RX7, "doors", "(II)I"⟩
abbrev cX7_passes : ByteArray := prog_9_method_26_code
def yX7_passes : MethodName := ⟨RX7, "passes", "(I)I"⟩
abbrev cX7_delivers : ByteArray := prog_9_method_27_code
def yX7_delivers : MethodName := ⟨RX7, "delivers", "(I)I"⟩
abbrev cX7_repairs : ByteArray := prog_9_method_28_code
def yX7_repairs : MethodName := ⟨RX7, "repairs", "(II)I"⟩
abbrev cX7_done : ByteArray := prog_9_method_29_code
def yX7_done : MethodName := ⟨RX7, "done", "(I)I"⟩
abbrev cX7_isCold : ByteArray := prog_9_method_30_code
def yX7_isCold : MethodName := ⟨RX7, "isCold", "(II)Z"⟩
abbrev cX7_addVan : ByteArray := prog_9_method_31_code
def yX7_addVan : MethodName := ⟨RX7, "addVan", "(II)I"⟩
abbrev cX7_isNumber : ByteArray := prog_9_method_32_code
def yX7_isNumber : MethodName := ⟨RX7, "isNumber", "(II)Z"⟩
abbrev cX7_setNumber : ByteArray := prog_9_method_33_code
def yX7_setNumber : MethodName := ⟨RX7, "setNumber", "(II)I"⟩
abbrev cX7_setVan : ByteArray := prog_9_method_34_code
def yX7_setVan : MethodName := ⟨RX7, "setVan", "(III)I"⟩
abbrev cX7_isMode : ByteArray := prog_9_method_35_code
def yX7_isMode : MethodName := ⟨RX7, "isMode", "(II)Z"⟩
abbrev cX7_setProbe : ByteArray := prog_9_method_36_code
def yX7_setProbe : MethodName := ⟨RX7, "setProbe", "(IIII)I"⟩
abbrev cX7_repair : ByteArray := prog_9_method_37_code
def yX7_repair : MethodName := ⟨RX7, "repair", "(II)I"⟩
abbrev cX7_manyIn : ByteArray := prog_9_method_38_code
def yX7_manyIn : MethodName := ⟨RX7, "manyIn", "(II)I"⟩
abbrev cX7_loadPallet : ByteArray := prog_9_method_39_code
def yX7_loadPallet : MethodName := ⟨RX7, "loadPallet", "(IIIII)I"⟩
abbrev cX7_door : ByteArray := prog_9_method_40_code
def yX7_door : MethodName := ⟨RX7, "door", "(II)I"⟩
abbrev cX7_pass : ByteArray := prog_9_method_41_code
def yX7_pass : MethodName := ⟨RX7, "pass", "(I)I"⟩
abbrev cX7_deliver : ByteArray := prog_9_method_42_code
def yX7_deliver : MethodName := ⟨RX7, "deliver", "(I)I"⟩
abbrev cX7_detour : ByteArray := prog_9_method_43_code
def yX7_detour : MethodName := ⟨RX7, "detour", "(II)I"⟩
abbrev cX7_appendCharacter : ByteArray := prog_9_method_44_code
def yX7_appendCharacter : MethodName := ⟨RX7, "appendCharacter", "(I)I"⟩
abbrev cX7_clearText : ByteArray := prog_9_method_45_code
def yX7_clearText : MethodName := ⟨RX7, "clearText", "()I"⟩
abbrev cX7_isAt : ByteArray := prog_9_method_46_code
def yX7_isAt : MethodName := ⟨RX7, "isAt", "(II)Z"⟩
abbrev cX7_skips : ByteArray := prog_9_method_47_code
def yX7_skips : MethodName := ⟨RX7, "skips", "()V"⟩
abbrev cX7_takes : ByteArray := prog_9_method_48_code
def yX7_takes : MethodName := ⟨RX7, "takes", "(I)Z"⟩
abbrev cX7_isFigure : ByteArray := prog_9_method_49_code
def yX7_isFigure : MethodName := ⟨RX7, "isFigure", "(I)Z"⟩
abbrev cX7_isCommand : ByteArray := prog_9_method_50_code
def yX7_isCommand : MethodName := ⟨RX7, "isCommand", "()Z"⟩
abbrev cX7_does : ByteArray := prog_9_method_51_code
def yX7_does : MethodName := ⟨RX7, "does", "()I"⟩
abbrev cX7_isScript : ByteArray := prog_9_method_52_code
def yX7_isScript : MethodName := ⟨RX7, "isScript", "()Z"⟩
abbrev cX7_runScript : ByteArray := prog_9_method_53_code
def yX7_runScript : MethodName := ⟨RX7, "runScript", "()I"⟩
abbrev cX7_count : ByteArray := prog_9_method_54_code
def yX7_count : MethodName := ⟨RX7, "count", "(I)I"⟩
abbrev cX7_van : ByteArray := prog_9_method_55_code
def yX7_van : MethodName := ⟨RX7, "van", "(II)I"⟩
abbrev cX7_zone : ByteArray := prog_9_method_56_code
def yX7_zone : MethodName := ⟨RX7, "zone", "(III)I"⟩
abbrev cX7_cause : ByteArray := prog_9_method_57_code
def yX7_cause : MethodName := ⟨RX7, "cause", "(I)I"⟩
abbrev cX7_pallet : ByteArray := prog_9_method_58_code
def yX7_pallet : MethodName := ⟨RX7, "pallet", "(II)I"⟩
abbrev cX7_claim : ByteArray := prog_9_method_59_code
def yX7_claim : MethodName := ⟨RX7, "claim", "(II)I"⟩
abbrev cX7_claims : ByteArray := prog_9_method_60_code
def yX7_claims : MethodName := ⟨RX7, "claims", "(I)I"⟩
abbrev cX7_entry : ByteArray := prog_9_method_61_code
def yX7_entry : MethodName := ⟨RX7, "entry", "(IIII)I"⟩
abbrev cX7_log : ByteArray := prog_9_method_62_code
def yX7_log : MethodName := ⟨RX7, "log", "(IIII)I"⟩
abbrev cX7_warm : ByteArray := prog_9_method_63_code
def yX7_warm : MethodName := ⟨RX7, "warm", "(IIIIII)I"⟩
abbrev cX7_minutesLeft : ByteArray := prog_9_method_64_code
def yX7_minutesLeft : MethodName := ⟨RX7, "minutesLeft", "(I)I"⟩
abbrev cX7_mayBeOpen : ByteArray := prog_9_method_65_code
def yX7_mayBeOpen : MethodName := ⟨RX7, "mayBeOpen", "(II)Z"⟩
abbrev cX7_longestOpen : ByteArray := prog_9_method_66_code
def yX7_longestOpen : MethodName := ⟨RX7, "longestOpen", "(I)I"⟩
abbrev cX7_undo : ByteArray := prog_9_method_67_code
def yX7_undo : MethodName := ⟨RX7, "undo", "()I"⟩
def RJ6 : String := "java/lang/Integer"
abbrev cJ6_bitCount_0f7a4 : ByteArray := prog_10_method_49_code
def yJ6_bitCount_0f7a4 : MethodName := ⟨RJ6, "bitCount", "(I)I"⟩
def RJ9 : String := "java/lang/Math"
abbrev cJ9_floorDiv_7cf53 : ByteArray := prog_11_method_47_code
def yJ9_floorDiv_7cf53 : MethodName := ⟨RJ9, "floorDiv", "(II)I"⟩
abbrev cJ9_abs_0f7a4 : ByteArray := prog_11_method_59_code
def yJ9_abs_0f7a4 : MethodName := ⟨RJ9, "abs", "(I)I"⟩
abbrev cJ9_max_7cf53 : ByteArray := prog_11_method_65_code
def yJ9_max_7cf53 : MethodName := ⟨RJ9, "max", "(II)I"⟩
abbrev cJ9_min_7cf53 : ByteArray := prog_11_method_69_code
def yJ9_min_7cf53 : MethodName := ⟨RJ9, "min", "(II)I"⟩
def RL : String := "ColdChainLaw"
abbrev cL_law : ByteArray := code
def yL_law : MethodName := ⟨RL, "law", "([I)Z"⟩
abbrev vwCl : List vw_C := [(RX0, TX0, 2), (RX1, TX1, 10), (RX2, TX2, 7), (RX3, TX3, 8), (RX4, TX4, 5), (RX5, TX5, 5), (RX6, TX6, 7), (RX7, TX7, 12)]
end
section
/-! CORE: the heap of the system once it is built has a fixed shape; only ints change. An object is named by (kind, three indices), the ints by (region, index). -/
abbrev Obj : Type := Nat × Nat × Nat × Nat
abbrev OV : Type := Int32 ⊕ Obj
abbrev Mm : Type := Nat → Nat → Int32
abbrev Gl : Type := va_G × (Obj → Nat) × (Nat → ClassId)
def vlv (G : Gl) : OV → Value
  | .inl x => .int x
  | .inr o => .ref (G.2.1 o)
def wr (M : Mm) (r i : Nat) (x : Int32) : Mm := fun r' i' => if r' = r ∧ i' = i then x else M r' i'
def lenR (r : Nat) : Nat := if r < 26 then 80 else if r < 48 then 601 else if r = 50 then 183 else if r = 51 then 1098 else if r = 52 then 183 else if r = 53 then 183 else if r = 54 then 10800 else if r = 55 then 80 else 2
/-- which objects there are -/
def okO : Obj → Bool
  | (0, a, b, c) => decide (a = 0 ∧ b = 0 ∧ c = 0)
  | (1, q, p, c) => decide (q < 9 ∧ p < 12 ∧ c = 0)
  | (2, a, b, c) => decide (a = 0 ∧ b = 0 ∧ c = 0)
  | (3, q, b, c) => decide (q < 9 ∧ b = 0 ∧ c = 0)
  | (4, q, v, c) => decide (q < 9 ∧ v < 3 ∧ c = 0)
  | (5, q, v, z) => decide (q < 9 ∧ v < 3 ∧ z < 3)
  | (6, a, b, c) => decide (a = 0 ∧ b = 0 ∧ c = 0)
  | (7, a, b, c) => decide (a = 0 ∧ b = 0 ∧ c = 0)
  | (8, r, n, c) => decide (r = 22 ∧ n = 80 ∧ c = 0)
  | (9, r, n, c) => decide (((23 ≤ r ∧ r ≤ 25) ∨ (30 ≤ r ∧ r ≤ 47) ∨ (50 ≤ r ∧ r ≤ 56)) ∧ n = lenR r ∧ c = 0)
  | (10, q, b, c) => decide (q < 9 ∧ b = 0 ∧ c = 0)
  | (11, a, b, c) => decide (a = 0 ∧ b = 0 ∧ c = 0)
  | (12, q, b, c) => decide (q < 9 ∧ b = 0 ∧ c = 0)
  | (13, q, v, c) => decide (q < 9 ∧ v < 3 ∧ c = 0)
  | (14, t, b, c) => decide (t < 2 ∧ b = 0 ∧ c = 0)
  | _ => false
/-- a row of references -/
def rfR (G : Gl) (n : Nat) (f : Nat → Obj) : Nat → Option Nat := fun i => if i < n then some (G.2.1 (f i)) else none
/-- what an object holds -/
def ent (G : Gl) (M : Mm) : Obj → va_E
  | (0, _, _, _) => .inr (0, [.ref (G.2.1 (14, 0, 0, 0)), .ref (G.2.1 (14, 1, 0, 0))])
  | (1, q, p, _) => .inr (1, [.int (M q (63 + 10 * p)), .int (M q (63 + 10 * p + 1)), .int (M q (63 + 10 * p + 2)), .int (M q (63 + 10 * p + 3)), .int (M q (63 + 10 * p + 4)), .int (M q (63 + 10 * p + 5)), .int (M q (63 + 10 * p + 6)), .int (M q (63 + 10 * p + 7)), .int (M q (63 + 10 * p + 8)), .int (M q (63 + 10 * p + 9))])
  | (2, _, _, _) => .inr (2, [.ref (G.2.1 (8, 22, 80, 0)), .int (M 21 0), .int (M 21 1), .ref (G.2.1 (9, 23, 80, 0)), .ref (G.2.1 (9, 24, 80, 0)), .ref (G.2.1 (9, 25, 80, 0)), .int (M 21 2)])
  | (3, q, _, _) => .inr (3, [.int (M q 2), .int (M q 3), .int (M q 4), .int (M q 5), .int (M q 0), .int (M q 1), .ref (G.2.1 (12, q, 0, 0)), .ref (G.2.1 (10, q, 0, 0))])
  | (4, q, v, _) => .inr (4, [.int (M q (6 + 19 * v)), .int (M q (6 + 19 * v + 1)), .int (M q (6 + 19 * v + 2)), .int (M q (6 + 19 * v + 3)), .ref (G.2.1 (13, q, v, 0))])
  | (5, q, v, z) => .inr (5, [.int (M q (10 + 19 * v + 5 * z)), .int (M q (10 + 19 * v + 5 * z + 1)), .int (M q (10 + 19 * v + 5 * z + 2)), .int (M q (10 + 19 * v + 5 * z + 3)), .int (M q (10 + 19 * v + 5 * z + 4))])
  | (6, _, _, _) => .inr (6, [.ref (G.2.1 (3, 0, 0, 0)), .ref (G.2.1 (3, 1, 0, 0)), .ref (G.2.1 (11, 0, 0, 0)), .int (M 20 0), .int (M 20 1), .ref (G.2.1 (0, 0, 0, 0)), .ref (G.2.1 (2, 0, 0, 0))])
  | (7, _, _, _) => .inr (7, [.ref (G.2.1 (9, 50, 183, 0)), .ref (G.2.1 (9, 51, 1098, 0)), .ref (G.2.1 (9, 52, 183, 0)), .ref (G.2.1 (9, 53, 183, 0)), .int (M 60 0), .ref (G.2.1 (9, 54, 10800, 0)), .int (M 60 1), .ref (G.2.1 (9, 55, 80, 0)), .int (M 60 2), .int (M 60 3), .int (M 60 4), .ref (G.2.1 (9, 56, 2, 0))])
  | (8, r, n, _) => .inl (G.2.2 8, n, .inl (M r))
  | (9, r, n, _) => .inl (G.2.2 9, n, .inl (M r))
  | (10, q, _, _) => .inl (G.2.2 10, 12, .inr (.inr (.inr (.inr (rfR G 12 (fun i => (1, q, i, 0)))))))
  | (11, _, _, _) => .inl (G.2.2 11, 7, .inr (.inr (.inr (.inr (rfR G 7 (fun i => (3, 2 + i, 0, 0)))))))
  | (12, q, _, _) => .inl (G.2.2 12, 3, .inr (.inr (.inr (.inr (rfR G 3 (fun i => (4, q, i, 0)))))))
  | (13, q, v, _) => .inl (G.2.2 13, 3, .inr (.inr (.inr (.inr (rfR G 3 (fun i => (5, q, v, i)))))))
  | (14, t, _, _) => .inl (G.2.2 14, 9, .inr (.inr (.inr (.inr (rfR G 9 (fun i => (9, 30 + 9 * t + i, 601, 0)))))))
  | _ => .inr (99, [])
/-- the object that owns a place -/
def ow (r i : Nat) : Obj :=
  if r < 9 then
    if i < 6 then (3, r, 0, 0)
    else if i < 63 then (if (i - 6) % 19 < 4 then (4, r, (i - 6) / 19, 0) else (5, r, (i - 6) / 19, ((i - 6) % 19 - 4) / 5))
    else (1, r, (i - 63) / 10, 0)
  else if r = 20 then (6, 0, 0, 0) else if r = 21 then (2, 0, 0, 0) else if r = 60 then (7, 0, 0, 0)
  else if r = 22 then (8, 22, 80, 0) else (9, r, lenR r, 0)
theorem ow1 {q p j : Nat} (hq : q < 9) (hj : j < 10) : ow q (63 + 10 * p + j) = (1, q, p, 0) := by
  have e : (63 + 10 * p + j - 63) / 10 = p := by omega
  rw [ow, if_pos hq, if_neg (by omega), if_neg (by omega), e]
theorem ow4 {q v j : Nat} (hq : q < 9) (hv : v < 3) (hj : j < 4) : ow q (6 + 19 * v + j) = (4, q, v, 0) := by
  have e : (6 + 19 * v + j - 6) / 19 = v := by omega
  rw [ow, if_pos hq, if_neg (by omega), if_pos (by omega), if_pos (by omega), e]
theorem ow5 {q v z j : Nat} (hq : q < 9) (hv : v < 3) (hz : z < 3) (hj : j < 5) : ow q (10 + 19 * v + 5 * z + j) = (5, q, v, z) := by
  have e : (10 + 19 * v + 5 * z + j - 6) / 19 = v := by omega
  have e2 : ((10 + 19 * v + 5 * z + j - 6) % 19 - 4) / 5 = z := by omega
  rw [ow, if_pos hq, if_neg (by omega), if_pos (by omega), if_neg (by omega), e, e2]
theorem ow3 {q j : Nat} (hq : q < 9) (hj : j < 6) : ow q j = (3, q, 0, 0) := by
  rw [ow, if_pos hq, if_pos hj]
theorem ow9 {r n c i : Nat} (h : okO (9, r, n, c) = true) : ow r i = (9, r, n, c) := by
  simp only [okO, decide_eq_true_eq] at h
  obtain ⟨h1, rfl, rfl⟩ := h
  rw [ow, if_neg (by omega), if_neg (by omega), if_neg (by omega), if_neg (by omega), if_neg (by omega)]
theorem ent_congr (G : Gl) {M M' : Mm} {o : Obj} (ho : okO o = true) (h : ∀ r i, ow r i = o → M r i = M' r i) : ent G M o = ent G M' o := by
  obtain ⟨k, a, b, c⟩ := o
  match k, ho, h with
  | 0, _, _ => rfl
  | 1, ho, h =>
    simp only [okO, decide_eq_true_eq] at ho
    obtain ⟨h1, h2, rfl⟩ := ho
    have e : ∀ j, j < 10 → M a (63 + 10 * b + j) = M' a (63 + 10 * b + j) := fun j hj => h _ _ (ow1 h1 hj)
    have e0 : M a (63 + 10 * b) = M' a (63 + 10 * b) := e 0 (by decide)
    simp only [ent, e0, e 1 (by decide), e 2 (by decide), e 3 (by decide), e 4 (by decide), e 5 (by decide), e 6 (by decide), e 7 (by decide), e 8 (by decide), e 9 (by decide)]
  | 2, ho, h =>
    simp only [okO, decide_eq_true_eq] at ho
    obtain ⟨rfl, rfl, rfl⟩ := ho
    have e : ∀ j, M 21 j = M' 21 j := fun j => h _ _ rfl
    simp only [ent, e]
  | 3, ho, h =>
    simp only [okO, decide_eq_true_eq] at ho
    obtain ⟨h1, rfl, rfl⟩ := ho
    have e : ∀ j, j < 6 → M a j = M' a j := fun j hj => h _ _ (ow3 h1 hj)
    simp only [ent, e 0 (by decide), e 1 (by decide), e 2 (by decide), e 3 (by decide), e 4 (by decide), e 5 (by decide)]
  | 4, ho, h =>
    simp only [okO, decide_eq_true_eq] at ho
    obtain ⟨h1, h2, rfl⟩ := ho
    have e : ∀ j, j < 4 → M a (6 + 19 * b + j) = M' a (6 + 19 * b + j) := fun j hj => h _ _ (ow4 h1 h2 hj)
    have e0 : M a (6 + 19 * b) = M' a (6 + 19 * b) := e 0 (by decide)
    simp only [ent, e0, e 1 (by decide), e 2 (by decide), e 3 (by decide)]
  | 5, ho, h =>
    simp only [okO, decide_eq_true_eq] at ho
    obtain ⟨h1, h2, h3⟩ := ho
    have e : ∀ j, j < 5 → M a (10 + 19 * b + 5 * c + j) = M' a (10 + 19 * b + 5 * c + j) := fun j hj => h _ _ (ow5 h1 h2 h3 hj)
    have e0 : M a (10 + 19 * b + 5 * c) = M' a (10 + 19 * b + 5 * c) := e 0 (by decide)
    simp only [ent, e0, e 1 (by decide), e 2 (by decide), e 3 (by decide), e 4 (by decide)]
  | 6, ho, h =>
    simp only [okO, decide_eq_true_eq] at ho
    obtain ⟨rfl, rfl, rfl⟩ := ho
    have e : ∀ j, M 20 j = M' 20 j := fun j => h _ _ rfl
    simp only [ent, e]
  | 7, ho, h =>
    simp only [okO, decide_eq_true_eq] at ho
    obtain ⟨rfl, rfl, rfl⟩ := ho
    have e : ∀ j, M 60 j = M' 60 j := fun j => h _ _ rfl
    simp only [ent, e]
  | 8, ho, h =>
    simp only [okO, decide_eq_true_eq] at ho
    obtain ⟨rfl, rfl, rfl⟩ := ho
    have e : M 22 = M' 22 := funext fun j => h _ _ rfl
    simp only [ent, e]
  | 9, ho, h =>
    have e : M a = M' a := funext fun j => h _ _ (ow9 ho)
    simp only [ent, e]
  | 10, _, _ => rfl
  | 11, _, _ => rfl
  | 12, _, _ => rfl
  | 13, _, _ => rfl
  | 14, _, _ => rfl
  | k + 15, ho, _ => simp [okO] at ho
/-- the heap holds the ints M in the system's shape -/
def Mem (G : Gl) (M : Mm) (H : Heap) : Prop := ∀ o, okO o = true → va_at G.1 vwCl (G.2.1 o, ent G M o) H
def GI (G : Gl) : Prop := ∀ o o', okO o = true → okO o' = true → G.2.1 o = G.2.1 o' → o = o'
def AG (G : Gl) : Nat → Prop := fun a => ∃ o, okO o = true ∧ G.2.1 o = a
theorem Mem.put {G : Gl} {M : Mm} {H H1 : Heap} {o : Obj} {r i : Nat} {x : Int32} (hG : GI G) (hM : Mem G M H) (ho : okO o = true) (how : ow r i = o) (h1 : va_at G.1 vwCl (G.2.1 o, ent G (wr M r i x) o) H1) (oq : ∀ q : Nat, q ≠ G.2.1 o → H1[q]? = H[q]?) : Mem G (wr M r i x) H1 := by
  intro o' ho'
  by_cases h : o' = o
  · subst h; exact h1
  · have e : ent G (wr M r i x) o' = ent G M o' := ent_congr G ho' (fun r' i' hw => if_neg (by rintro ⟨rfl, rfl⟩; exact h (hw.symm.trans how)))
    rw [e]
    exact (hM o' ho').kept (oq _ (fun z => h (hG o' o ho' ho z)))
theorem Mem.ext {G : Gl} {M M' : Mm} {H : Heap} (hM : Mem G M H) (h : ∀ r i, okO (ow r i) = true → M r i = M' r i) : Mem G M' H := by
  intro o ho
  rw [← ent_congr G ho (fun r i hw => h r i (by rw [hw]; exact ho))]
  exact hM o ho
/-- the arrays' classes -/
def tysG (G : Gl) : List (ClassId × FieldType) := [(G.2.2 8, .char), (G.2.2 9, .int), (G.2.2 10, .object "ColdChain$Pallet"), (G.2.2 11, .object "ColdChain$State"), (G.2.2 12, .object "ColdChain$Van"), (G.2.2 13, .object "ColdChain$Zone"), (G.2.2 14, .array .int)]
def KK (G : Gl) (U : State) : Prop := va_K G.1 vwCl (tysG G) U ∧ ∀ w ∈ lw_tbl, wOK w = true → va_Nw w U
def warmF (j : Nat) : Int32 := if j = 0 then 3 else if j = 1 then 6 else 12
def SS (G : Gl) (A : Nat → Prop) (U : State) (H : Heap) : Prop := va_Z "ColdChain" "WARMING" "[I" (.ref (G.2.1 (15, 0, 0, 0))) A U H ∧ va_T .int (G.2.1 (15, 0, 0, 0)) 3 (fun j => .int (warmF j)) A U H
theorem wOK_warm {w : Cond} {s U : State} (h : wOK w = true) (hW : s.WarmedH U.vm) (hz : va_Nw w s) : va_Nw w U := by
  cases w with
  | fieldLinkNest a i b n d hh => exact va_Nw.warmF hW hz
  | methodLinkNest a i x hh => exact va_Nw.warmM hW hz
  | arrayOver t =>
    cases t with
    | object C => exact va_AO.moved (C := C) hW.alike hz
    | array C => exact over_moved hW.alike hz
    | _ => exact word_at hW (good_of_word h) hz
  | _ => exact word_at hW (good_of_word h) hz
theorem KK.warm {G : Gl} {s U : State} (h : KK G s) (hW : s.WarmedH U.vm) : KK G U := ⟨va_K.moved hW.alike h.1, fun w hw ho => wOK_warm ho hW (h.2 w hw ho)⟩
end
section
/-! AW: the walk of a method over the shape: program counter, locals, stack, ints. -/
def FrOK (G : Gl) (A : Nat → Prop) (cc : ByteArray) (own : String) (nL fr lo : Nat) (p : Program) (R : Room) (s : State) (m : MethodId) (c : Code) (cells slots : Nat) : Prop :=
  p.tables.exec = Jvm.exec ∧ c.code = cc ∧ c.maxLocals = nL ∧ s.vm.findClass own = some m.cls ∧ fr ≤ R.frames ∧ lo ≤ R.locals ∧ cells ≤ R.cells ∧ slots ≤ R.slots ∧ KK G s ∧ SS G A s s.heap ∧ GI G ∧ (∀ q, AG G q → A q)
/-- the locals: what is known of them -/
def Lh (G : Gl) (lsA : Array Slot) (nL : Nat) (ls : List (Option OV)) : Prop := lsA.size = nL ∧ ls.length = nL ∧ lv_wf lsA ∧ ∀ (i : Nat) (v : OV), ls[i]? = some (some v) → lsA[i]? = some (.val (vlv G v))
/-- the method's end at a program counter with an answer -/
def retI (cc : ByteArray) (pc : Nat) (rt : Option FieldType) : Option OV → Prop
  | none => rt = none ∧ decode cc pc = .ok (.return_, 1)
  | some (.inl x) => (∃ ty, rt = some ty ∧ narrow ty (.int x) = .int x) ∧ decode cc pc = .ok (.ireturn, 1)
  | some (.inr _) => (∃ t, rt = some (.array t)) ∧ decode cc pc = .ok (.areturn, 1)
def RetOK (G : Gl) (A : Nat → Prop) (cc : ByteArray) (rt : Option FieldType) (Φ : Option OV → Mm → Prop) (p : Program) (l : Launch) (e : Env) (R : Room) (s : State) (m : MethodId) (args : Array Value) (below : List Frame) (meth : Method) (c : Code) (cells slots : Nat) (Z : State → Prop) : Prop :=
  ∀ (v : Option OV) (M : Mm) (H : Heap) (locs : List Loc) (lsA : Array Slot) (pc : Nat), Φ v M → Mem G M H → va_S A s.heap H locs → retI cc pc rt v → W p l e R s m args below meth c H locs cells slots Z (F0 m pc lsA (v.toList.map (vlv G)))
def AW (G : Gl) (cc : ByteArray) (own : String) (nL fr lo : Nat) (rt : Option FieldType) (Φ : Option OV → Mm → Prop) (pc : Nat) (ls : List (Option OV)) (st : List OV) (M : Mm) : Prop :=
  ∀ (A : Nat → Prop) (p : Program) (l : Launch) (e : Env) (R : Room) (s : State) (m : MethodId) (args : Array Value) (below : List Frame) (meth : Method) (c : Code) (cells slots : Nat) (Z : State → Prop) (H : Heap) (locs : List Loc) (lsA : Array Slot),
    FrOK G A cc own nL fr lo p R s m c cells slots → RetOK G A cc rt Φ p l e R s m args below meth c cells slots Z → Mem G M H → va_S A s.heap H locs → Lh G lsA nL ls →
    W p l e R s m args below meth c H locs cells slots Z (F0 m pc lsA (st.map (vlv G)))
def PC (G : Gl) (av : List OV) (M : Mm) : Array Value → State → Prop := va_Pc (av.map (vlv G)) (fun U => Mem G M U.heap ∧ KK G U ∧ SS G (AG G) U U.heap)
def QC (G : Gl) (Φ : Option OV → Mm → Prop) : Array Value → State → Outcome → State → Prop := fun _ st oc t => (∃ (v : Option OV) (M' : Mm), oc = .returned (v.map (vlv G)) ∧ Φ v M' ∧ Mem G M' t.heap) ∧ va_F (AG G) st t
/-- a method's contract -/
def Ct (y : MethodName) (cc : ByteArray) (maxL : Nat) (rt : Option FieldType) (fr lo : Nat) (av : List OV) (M : Mm) (Φ : Option OV → Mm → Prop) : Prop :=
  ∀ (G : Gl) (l : Launch), GI G → Met l y [.code y cc maxL rt] { frames := fr, cells := 0, slots := 0, locals := lo } (PC G av M) (QC G Φ) 0 0 (AG G)
theorem vlv_cat (G : Gl) (v : OV) : (vlv G v).category = 1 := by cases v <;> rfl
theorem lg_sl_vlv (G : Gl) (av : List OV) : lg_sl (av.map (vlv G)) = av.map (fun v => Slot.val (vlv G v)) := by
  induction av with
  | nil => rfl
  | cons a t ih =>
    have h1 : lg_sl (List.map (vlv G) (a :: t)) = [Slot.val (vlv G a)] ++ lg_sl (List.map (vlv G) t) := by
      simp [lg_sl, vlv_cat]
    rw [h1, ih]; rfl
theorem Lh.entry (G : Gl) {av : List OV} {nL : Nat} (h : av.length ≤ nL) : Lh G (lg_sl (av.map (vlv G)) ++ List.replicate (nL - (lg_sl (av.map (vlv G))).length) Slot.unset).toArray nL (av.map some ++ List.replicate (nL - av.length) none) := by
  have h0 : (lg_sl (av.map (vlv G))).length = av.length := by rw [lg_sl_vlv, List.length_map]
  have h1 := lv_entry (av.map (vlv G)) (n := nL) (by rw [h0]; exact h)
  refine ⟨h1.1, by simp; omega, h1.2.1, fun i v hv => ?_⟩
  have hi : i < av.length := by
    rcases Nat.lt_or_ge i av.length with q | q
    · exact q
    · rw [List.getElem?_append_right (by simp; exact q)] at hv
      have := List.eq_of_mem_replicate (List.mem_of_getElem? hv)
      cases this
  rw [List.getElem?_append_left (by simp; exact hi), List.getElem?_map] at hv
  rw [lg_sl_vlv, List.getElem?_toArray, List.getElem?_append_left (by simp; exact hi), List.getElem?_map]
  cases ha : av[i]? with
  | none => rw [ha] at hv; cases hv
  | some a =>
    rw [ha] at hv
    cases hv
    rfl
theorem Lh.set {G : Gl} {lsA : Array Slot} {nL : Nat} {ls : List (Option OV)} (h : Lh G lsA nL ls) {i : Nat} (hi : i < nL) (v : OV) : ∃ lsA', storeLocals lsA i (vlv G v) = some lsA' ∧ Lh G lsA' nL (ls.set i (some v)) := by
  obtain ⟨h1, h2, h3, h4⟩ := h
  let l : List (Nat × Value) := (List.range nL).filterMap (fun j => match ls[j]? with | some (some w) => some (j, vlv G w) | _ => none)
  have hl : lv_has lsA nL l := by
    refine ⟨h1, h3, fun q hq => ?_⟩
    obtain ⟨j, -, hj⟩ := List.mem_filterMap.mp hq
    cases hw : ls[j]? with
    | none => rw [hw] at hj; cases hj
    | some o =>
      rw [hw] at hj
      cases o with
      | none => cases hj
      | some w => cases hj; exact h4 j w hw
  obtain ⟨ls', e1, e2⟩ := lv_store1 hl hi (vlv_cat G v)
  refine ⟨ls', e1, e2.1, by simp [h2], e2.2.1, fun j w hj => ?_⟩
  by_cases hji : j = i
  · subst hji
    rw [List.getElem?_set_self (by omega)] at hj
    cases hj
    exact e2.2.2 (j, vlv G v) List.mem_cons_self
  · rw [List.getElem?_set_ne (Ne.symm hji)] at hj
    refine e2.2.2 (j, vlv G w) (List.mem_cons_of_mem _ (List.mem_filter.mpr ⟨List.mem_filterMap.mpr ⟨j, List.mem_range.mpr ?_, by rw [hj]⟩, ?_⟩))
    · rw [← h2]; exact (List.getElem?_eq_some_iff.mp hj).1
    · simp [vlv_cat, hji]
set_option maxHeartbeats 1000000 in
/-- a contract out of a walk -/
theorem Ct.of {y : MethodName} {cc : ByteArray} {maxL : Nat} {rt : Option FieldType} {fr lo : Nat} {av : List OV} {M : Mm} {Φ : Option OV → Mm → Prop} (hy : plainName y.cls = true) (hn : av.length ≤ maxL) (ls : List (Option OV)) (hls : av.map some ++ List.replicate (maxL - av.length) none = ls)
    (k : ∀ G, AW G cc y.cls maxL fr lo rt Φ 0 ls [] M) : Ct y cc maxL rt fr lo av M Φ := by
  intro G l hGI
  subst hls
  refine Met.ofW (cc := cc) (maxL := maxL) (ret := rt) hy rfl ?_
  intro p e s m args below meth c s₁ B hml hv
  obtain ⟨rfl, hM, hK, hSS⟩ := hv
  have hr := B.returns
  have hb := B.bytes
  have hx := B.exec
  have hlocks := B.notSynchronized
  have hown : s.vm.findClass y.cls = some m.cls := findClass_of_methodNamed B.named
  rw [lg_entry_eq]
  refine k G (AG G) p l e _ s m _ below meth c 0 0 _ s.heap [] _ ⟨hx, hb, hml, hown, Nat.le_refl _, Nat.le_refl _, Nat.zero_le _, Nat.zero_le _, hK, hSS, hGI, fun _ h => h⟩ ?_ hM va_S.rf (Lh.entry G hn)
  intro v M' H' locs' lsA' pc' hΦ hM' hS' hret
  cases v with
  | none =>
    obtain ⟨hrt, hd⟩ := hret
    exact W.vret hx hb (hr.trans hrt) (fun t ht hW => ⟨⟨none, M', rfl, hΦ, by rw [ht]; exact hM'⟩, hS'.F ht⟩) hS'.2.2 hd
  | some v =>
    cases v with
    | inl z =>
      obtain ⟨⟨ty, hrt, hnar⟩, hd⟩ := hret
      exact W.zret (v := z) hx hb (hr.trans hrt) hnar (fun t ht hW => ⟨⟨some (.inl z), M', rfl, hΦ, by rw [ht]; exact hM'⟩, hS'.F ht⟩) hS'.2.2 hd
    | inr o =>
      obtain ⟨⟨ty, hrt⟩, hd⟩ := hret
      exact W.aret (v := .ref (G.2.1 o)) hx hb (hr.trans hrt) (Or.inr ⟨ty, rfl⟩) (Or.inr ⟨_, rfl⟩) (fun t ht hW => ⟨⟨some (.inr o), M', rfl, hΦ, by rw [ht]; exact hM'⟩, hS'.F ht⟩) hS'.2.2 hd
theorem SS.at {G : Gl} {A : Nat → Prop} {s : State} {H : Heap} {locs : List Loc} (h : SS G A s s.heap) (hS : va_S A s.heap H locs) : SS G A s H := ⟨h.1.kept (fun a h1 h2 => hS.2.1 a h1 h2), h.2.kept (fun a h1 h2 => hS.2.1 a h1 h2)⟩
theorem SS.narrow {G : Gl} {A B : Nat → Prop} {U : State} {H : Heap} (h : SS G A U H) (hAB : ∀ q, B q → A q) : SS G B U H := ⟨va_Z.narrow h.1 hAB, va_T.narrow h.2 hAB⟩
theorem SS.warm {G : Gl} {A : Nat → Prop} {s U : State} {H : Heap} (h : SS G A s H) (hW : s.WarmedH U.vm) : SS G A U H := ⟨va_Z.moved hW.alike h.1, va_T.moved hW.alike h.2⟩
theorem PC.blind (G : Gl) (av : List OV) (M : Mm) : FrameBlind (PC G av M) := by
  intro a U g mk h
  obtain ⟨h1, h2, h3, h4⟩ := h
  exact ⟨h1, h2, ⟨va_K.moved (u := U) (U := U.calling g mk a) (Vm.Alike.refl U.vm) h3.1, fun w hw ho => wOK_warm (s := U) (U := U.calling g mk a) ho (State.WarmedH.refl U) (h3.2 w hw ho)⟩, ⟨va_Z.moved (u := U) (U := U.calling g mk a) (Vm.Alike.refl U.vm) h4.1, va_T.moved (u := U) (U := U.calling g mk a) (Vm.Alike.refl U.vm) h4.2⟩⟩
end
section
section Rows
variable {G : Gl} {cc : ByteArray} {own : String} {nL fr lo : Nat} {rt : Option FieldType} {Φ : Option OV → Mm → Prop} {pc pc' : Nat} {ls : List (Option OV)} {st : List OV} {M : Mm}
theorem wUse {w : Cond} {args : Array Value} {s : State} (h : wOK w = true) (hz : va_Nw w s) : w.before args s = true := by
  cases w with
  | fieldLinkNest a i b n d hh => exact va_Nw.use rfl hz
  | methodLinkNest a i x hh => exact va_Nw.use rfl hz
  | arrayOver t => exact hz
  | arrayClass t => exact hz
  | _ =>
    simp only [wOK, goodWord, Bool.and_eq_true] at h
    exact va_Nw.use h.1 hz
theorem FrOK.use {A : Nat → Prop} {p : Program} {R : Room} {s : State} {m : MethodId} {c : Code} {cells slots : Nat} (hF : FrOK G A cc own nL fr lo p R s m c cells slots) {w : Cond} {args : Array Value} (h : w ∈ lw_tbl) (ho : wOK w = true) : w.before args s = true := wUse ho (hF.2.2.2.2.2.2.2.2.1.2 w h ho)
theorem u_ws_ok {C : String} {T : u_T} {N : Nat} : ∀ w ∈ u_ws C T N, wOK w = true := by
  intro w hw
  obtain ⟨k, -, rfl⟩ := List.mem_map.mp hw
  unfold u_lay
  split <;> rfl

theorem a_iconst {n : Int} {v : Int32} (hd : decode cc pc = .ok (.iconst n, 1)) (hv : Int32.ofInt n = v) (hp : pc + 1 = pc') (kk : AW G cc own nL fr lo rt Φ pc' ls (.inl v :: st) M) : AW G cc own nL fr lo rt Φ pc ls st M := by
  subst hp
  intro A p l e R s m args below meth c cells slots Z H locs lsA hF hR hM hS hL
  exact lv_iconst hF.1 hF.2.1 hd hv (kk A p l e R s m args below meth c cells slots Z H locs lsA hF hR hM hS hL)
theorem a_bipush {n : Int} {v : Int32} (hd : decode cc pc = .ok (.bipush n, 2)) (hv : (Int8.ofInt n).toInt32 = v) (hp : pc + 2 = pc') (kk : AW G cc own nL fr lo rt Φ pc' ls (.inl v :: st) M) : AW G cc own nL fr lo rt Φ pc ls st M := by
  subst hp
  intro A p l e R s m args below meth c cells slots Z H locs lsA hF hR hM hS hL
  exact lv_bipush hF.1 hF.2.1 hd hv (kk A p l e R s m args below meth c cells slots Z H locs lsA hF hR hM hS hL)
theorem a_sipush {n : Int} {v : Int32} (hd : decode cc pc = .ok (.sipush n, 3)) (hv : (Int16.ofInt n).toInt32 = v) (hp : pc + 3 = pc') (kk : AW G cc own nL fr lo rt Φ pc' ls (.inl v :: st) M) : AW G cc own nL fr lo rt Φ pc ls st M := by
  subst hp
  intro A p l e R s m args below meth c cells slots Z H locs lsA hF hR hM hS hL
  exact lv_sipush hF.1 hF.2.1 hd hv (kk A p l e R s m args below meth c cells slots Z H locs lsA hF hR hM hS hL)
theorem a_ldc {index : Nat} {v : Int32} (hd : decode cc pc = .ok (.ldc index, 2)) (hw : Cond.constant own index v ∈ lw_tbl) (hp : pc + 2 = pc') (kk : AW G cc own nL fr lo rt Φ pc' ls (.inl v :: st) M) : AW G cc own nL fr lo rt Φ pc ls st M := by
  subst hp
  intro A p l e R s m args below meth c cells slots Z H locs lsA hF hR hM hS hL
  exact lv_ldc hF.1 hF.2.1 hF.2.2.2.1 (hF.use hw rfl) hd (kk A p l e R s m args below meth c cells slots Z H locs lsA hF hR hM hS hL)
theorem a_ldc_w {index : Nat} {v : Int32} (hd : decode cc pc = .ok (.ldc_w index, 3)) (hw : Cond.constant own index v ∈ lw_tbl) (hp : pc + 3 = pc') (kk : AW G cc own nL fr lo rt Φ pc' ls (.inl v :: st) M) : AW G cc own nL fr lo rt Φ pc ls st M := by
  subst hp
  intro A p l e R s m args below meth c cells slots Z H locs lsA hF hR hM hS hL
  exact lv_ldcw hF.1 hF.2.1 hF.2.2.2.1 (hF.use hw rfl) hd (kk A p l e R s m args below meth c cells slots Z H locs lsA hF hR hM hS hL)
theorem a_iadd {x y : Int32} (hd : decode cc pc = .ok (.iadd, 1)) (hp : pc + 1 = pc') (kk : AW G cc own nL fr lo rt Φ pc' ls (.inl (x + y) :: st) M) : AW G cc own nL fr lo rt Φ pc ls (.inl y :: .inl x :: st) M := by
  subst hp
  intro A p l e R s m args below meth c cells slots Z H locs lsA hF hR hM hS hL
  exact lv_iadd hF.1 hF.2.1 hd (kk A p l e R s m args below meth c cells slots Z H locs lsA hF hR hM hS hL)
theorem a_isub {x y : Int32} (hd : decode cc pc = .ok (.isub, 1)) (hp : pc + 1 = pc') (kk : AW G cc own nL fr lo rt Φ pc' ls (.inl (x - y) :: st) M) : AW G cc own nL fr lo rt Φ pc ls (.inl y :: .inl x :: st) M := by
  subst hp
  intro A p l e R s m args below meth c cells slots Z H locs lsA hF hR hM hS hL
  exact lv_isub hF.1 hF.2.1 hd (kk A p l e R s m args below meth c cells slots Z H locs lsA hF hR hM hS hL)
theorem a_imul {x y : Int32} (hd : decode cc pc = .ok (.imul, 1)) (hp : pc + 1 = pc') (kk : AW G cc own nL fr lo rt Φ pc' ls (.inl (x * y) :: st) M) : AW G cc own nL fr lo rt Φ pc ls (.inl y :: .inl x :: st) M := by
  subst hp
  intro A p l e R s m args below meth c cells slots Z H locs lsA hF hR hM hS hL
  exact lv_imul hF.1 hF.2.1 hd (kk A p l e R s m args below meth c cells slots Z H locs lsA hF hR hM hS hL)
theorem a_iand {x y : Int32} (hd : decode cc pc = .ok (.iand, 1)) (hp : pc + 1 = pc') (kk : AW G cc own nL fr lo rt Φ pc' ls (.inl (x &&& y) :: st) M) : AW G cc own nL fr lo rt Φ pc ls (.inl y :: .inl x :: st) M := by
  subst hp
  intro A p l e R s m args below meth c cells slots Z H locs lsA hF hR hM hS hL
  exact lv_iand hF.1 hF.2.1 hd (kk A p l e R s m args below meth c cells slots Z H locs lsA hF hR hM hS hL)
theorem a_ior {x y : Int32} (hd : decode cc pc = .ok (.ior, 1)) (hp : pc + 1 = pc') (kk : AW G cc own nL fr lo rt Φ pc' ls (.inl (x ||| y) :: st) M) : AW G cc own nL fr lo rt Φ pc ls (.inl y :: .inl x :: st) M := by
  subst hp
  intro A p l e R s m args below meth c cells slots Z H locs lsA hF hR hM hS hL
  exact lv_ior hF.1 hF.2.1 hd (kk A p l e R s m args below meth c cells slots Z H locs lsA hF hR hM hS hL)
theorem a_ixor {x y : Int32} (hd : decode cc pc = .ok (.ixor, 1)) (hp : pc + 1 = pc') (kk : AW G cc own nL fr lo rt Φ pc' ls (.inl (x ^^^ y) :: st) M) : AW G cc own nL fr lo rt Φ pc ls (.inl y :: .inl x :: st) M := by
  subst hp
  intro A p l e R s m args below meth c cells slots Z H locs lsA hF hR hM hS hL
  exact lv_ixor hF.1 hF.2.1 hd (kk A p l e R s m args below meth c cells slots Z H locs lsA hF hR hM hS hL)
theorem a_ishl {x y : Int32} (hd : decode cc pc = .ok (.ishl, 1)) (hp : pc + 1 = pc') (kk : AW G cc own nL fr lo rt Φ pc' ls (.inl (x <<< (y &&& 31)) :: st) M) : AW G cc own nL fr lo rt Φ pc ls (.inl y :: .inl x :: st) M := by
  subst hp
  intro A p l e R s m args below meth c cells slots Z H locs lsA hF hR hM hS hL
  exact lv_ishl hF.1 hF.2.1 hd (kk A p l e R s m args below meth c cells slots Z H locs lsA hF hR hM hS hL)
theorem a_ishr {x y : Int32} (hd : decode cc pc = .ok (.ishr, 1)) (hp : pc + 1 = pc') (kk : AW G cc own nL fr lo rt Φ pc' ls (.inl (x >>> (y &&& 31)) :: st) M) : AW G cc own nL fr lo rt Φ pc ls (.inl y :: .inl x :: st) M := by
  subst hp
  intro A p l e R s m args below meth c cells slots Z H locs lsA hF hR hM hS hL
  exact lv_ishr hF.1 hF.2.1 hd (kk A p l e R s m args below meth c cells slots Z H locs lsA hF hR hM hS hL)
theorem a_idiv {x y : Int32} (hd : decode cc pc = .ok (.idiv, 1)) (hy : ¬ y = 0) (hp : pc + 1 = pc') (kk : AW G cc own nL fr lo rt Φ pc' ls (.inl (x / y) :: st) M) : AW G cc own nL fr lo rt Φ pc ls (.inl y :: .inl x :: st) M := by
  subst hp
  intro A p l e R s m args below meth c cells slots Z H locs lsA hF hR hM hS hL
  exact lv_idiv hF.1 hF.2.1 hd hy (kk A p l e R s m args below meth c cells slots Z H locs lsA hF hR hM hS hL)
theorem a_irem {x y : Int32} (hd : decode cc pc = .ok (.irem, 1)) (hy : ¬ y = 0) (hp : pc + 1 = pc') (kk : AW G cc own nL fr lo rt Φ pc' ls (.inl (x - x / y * y) :: st) M) : AW G cc own nL fr lo rt Φ pc ls (.inl y :: .inl x :: st) M := by
  subst hp
  intro A p l e R s m args below meth c cells slots Z H locs lsA hF hR hM hS hL
  exact lv_irem hF.1 hF.2.1 hd hy (kk A p l e R s m args below meth c cells slots Z H locs lsA hF hR hM hS hL)
theorem a_ineg {x : Int32} (hd : decode cc pc = .ok (.ineg, 1)) (hp : pc + 1 = pc') (kk : AW G cc own nL fr lo rt Φ pc' ls (.inl (-x) :: st) M) : AW G cc own nL fr lo rt Φ pc ls (.inl x :: st) M := by
  subst hp
  intro A p l e R s m args below meth c cells slots Z H locs lsA hF hR hM hS hL
  exact lv_ineg hF.1 hF.2.1 hd (kk A p l e R s m args below meth c cells slots Z H locs lsA hF hR hM hS hL)
theorem a_iushr {x y : Int32} (hd : decode cc pc = .ok (.iushr, 1)) (hp : pc + 1 = pc') (kk : AW G cc own nL fr lo rt Φ pc' ls (.inl ((x.toUInt32 >>> (y.toUInt32 &&& Int32.toUInt32 31)).toInt32) :: st) M) : AW G cc own nL fr lo rt Φ pc ls (.inl y :: .inl x :: st) M := by
  subst hp
  intro A p l e R s m args below meth c cells slots Z H locs lsA hF hR hM hS hL
  exact lv_iushr hF.1 hF.2.1 hd rfl (kk A p l e R s m args below meth c cells slots Z H locs lsA hF hR hM hS hL)
theorem a_i2c {x : Int32} (hd : decode cc pc = .ok (.i2c, 1)) (hp : pc + 1 = pc') (kk : AW G cc own nL fr lo rt Φ pc' ls (.inl ((x.toUInt32 % 65536).toInt32) :: st) M) : AW G cc own nL fr lo rt Φ pc ls (.inl x :: st) M := by
  subst hp
  intro A p l e R s m args below meth c cells slots Z H locs lsA hF hR hM hS hL
  exact lv_i2c hF.1 hF.2.1 hd rfl (kk A p l e R s m args below meth c cells slots Z H locs lsA hF hR hM hS hL)
theorem a_dup {x : OV} (hd : decode cc pc = .ok (.dup, 1)) (hp : pc + 1 = pc') (kk : AW G cc own nL fr lo rt Φ pc' ls (x :: x :: st) M) : AW G cc own nL fr lo rt Φ pc ls (x :: st) M := by
  subst hp
  intro A p l e R s m args below meth c cells slots Z H locs lsA hF hR hM hS hL
  exact lv_dup hF.1 hF.2.1 hd (vlv_cat G x) (kk A p l e R s m args below meth c cells slots Z H locs lsA hF hR hM hS hL)
theorem a_pop {x : OV} (hd : decode cc pc = .ok (.pop, 1)) (hp : pc + 1 = pc') (kk : AW G cc own nL fr lo rt Φ pc' ls st M) : AW G cc own nL fr lo rt Φ pc ls (x :: st) M := by
  subst hp
  intro A p l e R s m args below meth c cells slots Z H locs lsA hF hR hM hS hL
  exact lv_pop hF.1 hF.2.1 hd (vlv_cat G x) (kk A p l e R s m args below meth c cells slots Z H locs lsA hF hR hM hS hL)
theorem a_dup2 {x y : OV} (hd : decode cc pc = .ok (.dup2, 1)) (hp : pc + 1 = pc') (kk : AW G cc own nL fr lo rt Φ pc' ls (x :: y :: x :: y :: st) M) : AW G cc own nL fr lo rt Φ pc ls (x :: y :: st) M := by
  subst hp
  intro A p l e R s m args below meth c cells slots Z H locs lsA hF hR hM hS hL
  exact lv_dup2_11 hF.1 hF.2.1 hd (vlv_cat G x) (vlv_cat G y) (kk A p l e R s m args below meth c cells slots Z H locs lsA hF hR hM hS hL)
theorem a_if_eq {x : Int32} {off : Int} {tgt : Nat} (hd : decode cc pc = .ok (.ifCond .eq off, 3)) (ht : (pc : Int) + off = (tgt : Int)) (hp : pc + 3 = pc') (kt : x = 0 → AW G cc own nL fr lo rt Φ tgt ls st M) (kf : ¬ x = 0 → AW G cc own nL fr lo rt Φ pc' ls st M) : AW G cc own nL fr lo rt Φ pc ls (.inl x :: st) M := by
  subst hp
  intro A p l e R s m args below meth c cells slots Z H locs lsA hF hR hM hS hL
  exact lv_if_eq hF.1 hF.2.1 hd ht (fun z => kt z A p l e R s m args below meth c cells slots Z H locs lsA hF hR hM hS hL) (fun z => kf z A p l e R s m args below meth c cells slots Z H locs lsA hF hR hM hS hL)
theorem a_icmp_eq {x y : Int32} {off : Int} {tgt : Nat} (hd : decode cc pc = .ok (.if_icmp .eq off, 3)) (ht : (pc : Int) + off = (tgt : Int)) (hp : pc + 3 = pc') (kt : x = y → AW G cc own nL fr lo rt Φ tgt ls st M) (kf : ¬ x = y → AW G cc own nL fr lo rt Φ pc' ls st M) : AW G cc own nL fr lo rt Φ pc ls (.inl y :: .inl x :: st) M := by
  subst hp
  intro A p l e R s m args below meth c cells slots Z H locs lsA hF hR hM hS hL
  exact lv_icmp_eq hF.1 hF.2.1 hd ht (fun z => kt z A p l e R s m args below meth c cells slots Z H locs lsA hF hR hM hS hL) (fun z => kf z A p l e R s m args below meth c cells slots Z H locs lsA hF hR hM hS hL)
theorem a_if_ne {x : Int32} {off : Int} {tgt : Nat} (hd : decode cc pc = .ok (.ifCond .ne off, 3)) (ht : (pc : Int) + off = (tgt : Int)) (hp : pc + 3 = pc') (kt : ¬ x = 0 → AW G cc own nL fr lo rt Φ tgt ls st M) (kf : x = 0 → AW G cc own nL fr lo rt Φ pc' ls st M) : AW G cc own nL fr lo rt Φ pc ls (.inl x :: st) M := by
  subst hp
  intro A p l e R s m args below meth c cells slots Z H locs lsA hF hR hM hS hL
  exact lv_if_ne hF.1 hF.2.1 hd ht (fun z => kt z A p l e R s m args below meth c cells slots Z H locs lsA hF hR hM hS hL) (fun z => kf z A p l e R s m args below meth c cells slots Z H locs lsA hF hR hM hS hL)
theorem a_icmp_ne {x y : Int32} {off : Int} {tgt : Nat} (hd : decode cc pc = .ok (.if_icmp .ne off, 3)) (ht : (pc : Int) + off = (tgt : Int)) (hp : pc + 3 = pc') (kt : ¬ x = y → AW G cc own nL fr lo rt Φ tgt ls st M) (kf : x = y → AW G cc own nL fr lo rt Φ pc' ls st M) : AW G cc own nL fr lo rt Φ pc ls (.inl y :: .inl x :: st) M := by
  subst hp
  intro A p l e R s m args below meth c cells slots Z H locs lsA hF hR hM hS hL
  exact lv_icmp_ne hF.1 hF.2.1 hd ht (fun z => kt z A p l e R s m args below meth c cells slots Z H locs lsA hF hR hM hS hL) (fun z => kf z A p l e R s m args below meth c cells slots Z H locs lsA hF hR hM hS hL)
theorem a_if_lt {x : Int32} {off : Int} {tgt : Nat} (hd : decode cc pc = .ok (.ifCond .lt off, 3)) (ht : (pc : Int) + off = (tgt : Int)) (hp : pc + 3 = pc') (kt : x < 0 → AW G cc own nL fr lo rt Φ tgt ls st M) (kf : ¬ x < 0 → AW G cc own nL fr lo rt Φ pc' ls st M) : AW G cc own nL fr lo rt Φ pc ls (.inl x :: st) M := by
  subst hp
  intro A p l e R s m args below meth c cells slots Z H locs lsA hF hR hM hS hL
  exact lv_if_lt hF.1 hF.2.1 hd ht (fun z => kt z A p l e R s m args below meth c cells slots Z H locs lsA hF hR hM hS hL) (fun z => kf z A p l e R s m args below meth c cells slots Z H locs lsA hF hR hM hS hL)
theorem a_icmp_lt {x y : Int32} {off : Int} {tgt : Nat} (hd : decode cc pc = .ok (.if_icmp .lt off, 3)) (ht : (pc : Int) + off = (tgt : Int)) (hp : pc + 3 = pc') (kt : x < y → AW G cc own nL fr lo rt Φ tgt ls st M) (kf : ¬ x < y → AW G cc own nL fr lo rt Φ pc' ls st M) : AW G cc own nL fr lo rt Φ pc ls (.inl y :: .inl x :: st) M := by
  subst hp
  intro A p l e R s m args below meth c cells slots Z H locs lsA hF hR hM hS hL
  exact lv_icmp_lt hF.1 hF.2.1 hd ht (fun z => kt z A p l e R s m args below meth c cells slots Z H locs lsA hF hR hM hS hL) (fun z => kf z A p l e R s m args below meth c cells slots Z H locs lsA hF hR hM hS hL)
theorem a_if_ge {x : Int32} {off : Int} {tgt : Nat} (hd : decode cc pc = .ok (.ifCond .ge off, 3)) (ht : (pc : Int) + off = (tgt : Int)) (hp : pc + 3 = pc') (kt : 0 ≤ x → AW G cc own nL fr lo rt Φ tgt ls st M) (kf : ¬ 0 ≤ x → AW G cc own nL fr lo rt Φ pc' ls st M) : AW G cc own nL fr lo rt Φ pc ls (.inl x :: st) M := by
  subst hp
  intro A p l e R s m args below meth c cells slots Z H locs lsA hF hR hM hS hL
  exact lv_if_ge hF.1 hF.2.1 hd ht (fun z => kt z A p l e R s m args below meth c cells slots Z H locs lsA hF hR hM hS hL) (fun z => kf z A p l e R s m args below meth c cells slots Z H locs lsA hF hR hM hS hL)
theorem a_icmp_ge {x y : Int32} {off : Int} {tgt : Nat} (hd : decode cc pc = .ok (.if_icmp .ge off, 3)) (ht : (pc : Int) + off = (tgt : Int)) (hp : pc + 3 = pc') (kt : y ≤ x → AW G cc own nL fr lo rt Φ tgt ls st M) (kf : ¬ y ≤ x → AW G cc own nL fr lo rt Φ pc' ls st M) : AW G cc own nL fr lo rt Φ pc ls (.inl y :: .inl x :: st) M := by
  subst hp
  intro A p l e R s m args below meth c cells slots Z H locs lsA hF hR hM hS hL
  exact lv_icmp_ge hF.1 hF.2.1 hd ht (fun z => kt z A p l e R s m args below meth c cells slots Z H locs lsA hF hR hM hS hL) (fun z => kf z A p l e R s m args below meth c cells slots Z H locs lsA hF hR hM hS hL)
theorem a_if_gt {x : Int32} {off : Int} {tgt : Nat} (hd : decode cc pc = .ok (.ifCond .gt off, 3)) (ht : (pc : Int) + off = (tgt : Int)) (hp : pc + 3 = pc') (kt : 0 < x → AW G cc own nL fr lo rt Φ tgt ls st M) (kf : ¬ 0 < x → AW G cc own nL fr lo rt Φ pc' ls st M) : AW G cc own nL fr lo rt Φ pc ls (.inl x :: st) M := by
  subst hp
  intro A p l e R s m args below meth c cells slots Z H locs lsA hF hR hM hS hL
  exact lv_if_gt hF.1 hF.2.1 hd ht (fun z => kt z A p l e R s m args below meth c cells slots Z H locs lsA hF hR hM hS hL) (fun z => kf z A p l e R s m args below meth c cells slots Z H locs lsA hF hR hM hS hL)
theorem a_icmp_gt {x y : Int32} {off : Int} {tgt : Nat} (hd : decode cc pc = .ok (.if_icmp .gt off, 3)) (ht : (pc : Int) + off = (tgt : Int)) (hp : pc + 3 = pc') (kt : y < x → AW G cc own nL fr lo rt Φ tgt ls st M) (kf : ¬ y < x → AW G cc own nL fr lo rt Φ pc' ls st M) : AW G cc own nL fr lo rt Φ pc ls (.inl y :: .inl x :: st) M := by
  subst hp
  intro A p l e R s m args below meth c cells slots Z H locs lsA hF hR hM hS hL
  exact lv_icmp_gt hF.1 hF.2.1 hd ht (fun z => kt z A p l e R s m args below meth c cells slots Z H locs lsA hF hR hM hS hL) (fun z => kf z A p l e R s m args below meth c cells slots Z H locs lsA hF hR hM hS hL)
theorem a_if_le {x : Int32} {off : Int} {tgt : Nat} (hd : decode cc pc = .ok (.ifCond .le off, 3)) (ht : (pc : Int) + off = (tgt : Int)) (hp : pc + 3 = pc') (kt : x ≤ 0 → AW G cc own nL fr lo rt Φ tgt ls st M) (kf : ¬ x ≤ 0 → AW G cc own nL fr lo rt Φ pc' ls st M) : AW G cc own nL fr lo rt Φ pc ls (.inl x :: st) M := by
  subst hp
  intro A p l e R s m args below meth c cells slots Z H locs lsA hF hR hM hS hL
  exact lv_if_le hF.1 hF.2.1 hd ht (fun z => kt z A p l e R s m args below meth c cells slots Z H locs lsA hF hR hM hS hL) (fun z => kf z A p l e R s m args below meth c cells slots Z H locs lsA hF hR hM hS hL)
theorem a_icmp_le {x y : Int32} {off : Int} {tgt : Nat} (hd : decode cc pc = .ok (.if_icmp .le off, 3)) (ht : (pc : Int) + off = (tgt : Int)) (hp : pc + 3 = pc') (kt : x ≤ y → AW G cc own nL fr lo rt Φ tgt ls st M) (kf : ¬ x ≤ y → AW G cc own nL fr lo rt Φ pc' ls st M) : AW G cc own nL fr lo rt Φ pc ls (.inl y :: .inl x :: st) M := by
  subst hp
  intro A p l e R s m args below meth c cells slots Z H locs lsA hF hR hM hS hL
  exact lv_icmp_le hF.1 hF.2.1 hd ht (fun z => kt z A p l e R s m args below meth c cells slots Z H locs lsA hF hR hM hS hL) (fun z => kf z A p l e R s m args below meth c cells slots Z H locs lsA hF hR hM hS hL)
theorem a_goto {off : Int} (hd : decode cc pc = .ok (.goto off, 3)) (ht : (pc : Int) + off = (pc' : Int)) (kk : AW G cc own nL fr lo rt Φ pc' ls st M) : AW G cc own nL fr lo rt Φ pc ls st M := by
  intro A p l e R s m args below meth c cells slots Z H locs lsA hF hR hM hS hL
  exact lv_goto hF.1 hF.2.1 hd ht (kk A p l e R s m args below meth c cells slots Z H locs lsA hF hR hM hS hL)
theorem a_tswO {dflt lo1 hi : Int} {offs : Array Int} {len : Nat} {x : Int32} {tgt : Nat} (hd : decode cc pc = .ok (.tableswitch dflt lo1 hi offs, len)) (h : x.toInt < lo1 ∨ hi < x.toInt) (ht : (pc : Int) + dflt = (tgt : Int)) (kk : AW G cc own nL fr lo rt Φ tgt ls st M) : AW G cc own nL fr lo rt Φ pc ls (.inl x :: st) M := by
  intro A p l e R s m args below meth c cells slots Z H locs lsA hF hR hM hS hL
  exact lv_tableOut hF.1 hF.2.1 hd h ht (kk A p l e R s m args below meth c cells slots Z H locs lsA hF hR hM hS hL)
theorem a_tswI {dflt lo1 hi : Int} {offs : Array Int} {len : Nat} {x : Int32} {off : Int} {tgt : Nat} (hd : decode cc pc = .ok (.tableswitch dflt lo1 hi offs, len)) (h1 : ¬ x.toInt < lo1) (h2 : ¬ hi < x.toInt) (ho : offs[(x.toInt - lo1).toNat]? = some off) (ht : (pc : Int) + off = (tgt : Int)) (kk : AW G cc own nL fr lo rt Φ tgt ls st M) : AW G cc own nL fr lo rt Φ pc ls (.inl x :: st) M := by
  intro A p l e R s m args below meth c cells slots Z H locs lsA hF hR hM hS hL
  exact lv_tableIn hF.1 hF.2.1 hd h1 h2 ho ht (kk A p l e R s m args below meth c cells slots Z H locs lsA hF hR hM hS hL)
theorem a_lsw {dflt : Int} {ps : Array (Int × Int)} {len : Nat} {x : Int32} {off : Int} {tgt : Nat} (hd : decode cc pc = .ok (.lookupswitch dflt ps, len)) (hq : (ps.toList.zip (ps.toList.drop 1)).all (fun (a, next) => a.1 < next.1) = true) (ho : Op.lookupswitch.offset ps.toList dflt x.toInt = off) (ht : (pc : Int) + off = (tgt : Int)) (kk : AW G cc own nL fr lo rt Φ tgt ls st M) : AW G cc own nL fr lo rt Φ pc ls (.inl x :: st) M := by
  intro A p l e R s m args below meth c cells slots Z H locs lsA hF hR hM hS hL
  exact lv_lookup hF.1 hF.2.1 hd hq ho ht (kk A p l e R s m args below meth c cells slots Z H locs lsA hF hR hM hS hL)
theorem a_ild {i : Nat} {x : Int32} (hd : (∃ k : Fin 4, (k : Nat) = i ∧ decode cc pc = .ok (.iload_n k, 1) ∧ pc + 1 = pc') ∨ (decode cc pc = .ok (.iload i, 2) ∧ pc + 2 = pc')) (hl : ls[i]? = some (some (.inl x))) (kk : AW G cc own nL fr lo rt Φ pc' ls (.inl x :: st) M) : AW G cc own nL fr lo rt Φ pc ls st M := by
  intro A p l e R s m args below meth c cells slots Z H locs lsA hF hR hM hS hL
  rcases hd with ⟨k, hk, hd, rfl⟩ | ⟨hd, rfl⟩
  · exact lv_iload_n hF.1 hF.2.1 hd hk (hL.2.2.2 i _ hl) (kk A p l e R s m args below meth c cells slots Z H locs lsA hF hR hM hS hL)
  · exact lv_iload hF.1 hF.2.1 hd (hL.2.2.2 i _ hl) (kk A p l e R s m args below meth c cells slots Z H locs lsA hF hR hM hS hL)
theorem a_ald {i : Nat} {x : Obj} (hd : (∃ k : Fin 4, (k : Nat) = i ∧ decode cc pc = .ok (.aload_n k, 1) ∧ pc + 1 = pc') ∨ (decode cc pc = .ok (.aload i, 2) ∧ pc + 2 = pc')) (hl : ls[i]? = some (some (.inr x))) (kk : AW G cc own nL fr lo rt Φ pc' ls (.inr x :: st) M) : AW G cc own nL fr lo rt Φ pc ls st M := by
  intro A p l e R s m args below meth c cells slots Z H locs lsA hF hR hM hS hL
  rcases hd with ⟨k, hk, hd, rfl⟩ | ⟨hd, rfl⟩
  · exact lv_aload_n hF.1 hF.2.1 hd hk (hL.2.2.2 i _ hl) (kk A p l e R s m args below meth c cells slots Z H locs lsA hF hR hM hS hL)
  · exact lv_aload hF.1 hF.2.1 hd (hL.2.2.2 i _ hl) (kk A p l e R s m args below meth c cells slots Z H locs lsA hF hR hM hS hL)
theorem w_istore {p : Program} {l : Launch} {e : Env} {R : Room} {s : State} {m : MethodId} {args : Array Value} {below : List Frame} {meth : Method} {c : Code} {H : Heap} {locs : List Loc} {cells slots : Nat} {Q : State → Prop} {lsA lsB : Array Slot} {rest : List Value} (hexec : p.tables.exec = Jvm.exec) (hb : c.code = cc) {i : Nat} {x : Int32} (hd : (∃ k : Fin 4, (k : Nat) = i ∧ decode cc pc = .ok (.istore_n k, 1) ∧ pc + 1 = pc') ∨ (decode cc pc = .ok (.istore i, 2) ∧ pc + 2 = pc')) (hs : storeLocals lsA i (.int x) = some lsB)
    (k : W p l e R s m args below meth c H locs cells slots Q (F0 m pc' lsB rest)) : W p l e R s m args below meth c H locs cells slots Q (F0 m pc lsA (.int x :: rest)) := by
  intro T hT X
  obtain ⟨t, a, b⟩ := k T hT X
  refine ⟨t, ?_, b⟩
  rcases hd with ⟨k, rfl, hd, rfl⟩ | ⟨hd, rfl⟩
  · jvm_step X.here [X.here.top, hexec, hb, hd, hs]
    exact a
  · jvm_step X.here [X.here.top, hexec, hb, hd, hs]
    exact a
theorem w_astore {p : Program} {l : Launch} {e : Env} {R : Room} {s : State} {m : MethodId} {args : Array Value} {below : List Frame} {meth : Method} {c : Code} {H : Heap} {locs : List Loc} {cells slots : Nat} {Q : State → Prop} {lsA lsB : Array Slot} {rest : List Value} (hexec : p.tables.exec = Jvm.exec) (hb : c.code = cc) {i : Nat} {x : Nat} (hd : (∃ k : Fin 4, (k : Nat) = i ∧ decode cc pc = .ok (.astore_n k, 1) ∧ pc + 1 = pc') ∨ (decode cc pc = .ok (.astore i, 2) ∧ pc + 2 = pc')) (hs : storeLocals lsA i (.ref x) = some lsB)
    (k : W p l e R s m args below meth c H locs cells slots Q (F0 m pc' lsB rest)) : W p l e R s m args below meth c H locs cells slots Q (F0 m pc lsA (.ref x :: rest)) := by
  intro T hT X
  obtain ⟨t, a, b⟩ := k T hT X
  refine ⟨t, ?_, b⟩
  rcases hd with ⟨k, rfl, hd, rfl⟩ | ⟨hd, rfl⟩
  · jvm_step X.here [X.here.top, hexec, hb, hd, hs]
    exact ⟨rfl, a⟩
  · jvm_step X.here [X.here.top, hexec, hb, hd, hs]
    exact ⟨rfl, a⟩
theorem w_iinc {p : Program} {l : Launch} {e : Env} {R : Room} {s : State} {m : MethodId} {args : Array Value} {below : List Frame} {meth : Method} {c : Code} {H : Heap} {locs : List Loc} {cells slots : Nat} {Q : State → Prop} {lsA lsB : Array Slot} {rest : List Value} (hexec : p.tables.exec = Jvm.exec) (hb : c.code = cc) {i : Nat} {n : Int} {x : Int32} (hd : decode cc pc = .ok (.iinc i n, 3)) (hl : lsA[i]? = some (.val (.int x))) (hs : storeLocals lsA i (.int (x + Int32.ofInt n)) = some lsB)
    (k : W p l e R s m args below meth c H locs cells slots Q (F0 m (pc + 3) lsB rest)) : W p l e R s m args below meth c H locs cells slots Q (F0 m pc lsA rest) := by
  intro T hT X
  obtain ⟨t, a, b⟩ := k T hT X
  refine ⟨t, ?_, b⟩
  jvm_step X.here [X.here.top, hexec, hb, hd, hl, hs]
  exact a
theorem a_ist {i : Nat} {x : Int32} (hi : i < nL) (hd : (∃ k : Fin 4, (k : Nat) = i ∧ decode cc pc = .ok (.istore_n k, 1) ∧ pc + 1 = pc') ∨ (decode cc pc = .ok (.istore i, 2) ∧ pc + 2 = pc')) (kk : AW G cc own nL fr lo rt Φ pc' (ls.set i (some (.inl x))) st M) : AW G cc own nL fr lo rt Φ pc ls (.inl x :: st) M := by
  intro A p l e R s m args below meth c cells slots Z H locs lsA hF hR hM hS hL
  obtain ⟨lsB, e1, hL2⟩ := hL.set hi (.inl x)
  exact w_istore hF.1 hF.2.1 hd e1 (kk A p l e R s m args below meth c cells slots Z H locs lsB hF hR hM hS hL2)
theorem a_ast {i : Nat} {x : Obj} (hi : i < nL) (hd : (∃ k : Fin 4, (k : Nat) = i ∧ decode cc pc = .ok (.astore_n k, 1) ∧ pc + 1 = pc') ∨ (decode cc pc = .ok (.astore i, 2) ∧ pc + 2 = pc')) (kk : AW G cc own nL fr lo rt Φ pc' (ls.set i (some (.inr x))) st M) : AW G cc own nL fr lo rt Φ pc ls (.inr x :: st) M := by
  intro A p l e R s m args below meth c cells slots Z H locs lsA hF hR hM hS hL
  obtain ⟨lsB, e1, hL2⟩ := hL.set hi (.inr x)
  exact w_astore hF.1 hF.2.1 hd e1 (kk A p l e R s m args below meth c cells slots Z H locs lsB hF hR hM hS hL2)
theorem a_inc {i : Nat} {n : Int} {x y : Int32} (hi : i < nL) (hd : decode cc pc = .ok (.iinc i n, 3)) (hl : ls[i]? = some (some (.inl x))) (hv : x + Int32.ofInt n = y) (hp : pc + 3 = pc') (kk : AW G cc own nL fr lo rt Φ pc' (ls.set i (some (.inl y))) st M) : AW G cc own nL fr lo rt Φ pc ls st M := by
  subst hp
  subst hv
  intro A p l e R s m args below meth c cells slots Z H locs lsA hF hR hM hS hL
  obtain ⟨lsB, e1, hL2⟩ := hL.set hi (.inl (x + Int32.ofInt n))
  exact w_iinc hF.1 hF.2.1 hd (hL.2.2.2 i _ hl) e1 (kk A p l e R s m args below meth c cells slots Z H locs lsB hF hR hM hS hL2)
theorem a_al_0_1 {x : Obj} (hd : decode cc pc = .ok (.aload_n 0, 1)) (hp : pc + 1 = pc') (kk : AW G cc own 1 fr lo rt Φ pc' [some (.inr x)] (.inr x :: st) M) : AW G cc own 1 fr lo rt Φ pc [some (.inr x)] st M := a_ald (i := 0) (Or.inl ⟨0, rfl, hd, hp⟩) rfl kk
theorem a_al_0_2 {x1 : Option OV} {x : Obj} (hd : decode cc pc = .ok (.aload_n 0, 1)) (hp : pc + 1 = pc') (kk : AW G cc own 2 fr lo rt Φ pc' [some (.inr x), x1] (.inr x :: st) M) : AW G cc own 2 fr lo rt Φ pc [some (.inr x), x1] st M := a_ald (i := 0) (Or.inl ⟨0, rfl, hd, hp⟩) rfl kk
theorem a_al_0_3 {x1 x2 : Option OV} {x : Obj} (hd : decode cc pc = .ok (.aload_n 0, 1)) (hp : pc + 1 = pc') (kk : AW G cc own 3 fr lo rt Φ pc' [some (.inr x), x1, x2] (.inr x :: st) M) : AW G cc own 3 fr lo rt Φ pc [some (.inr x), x1, x2] st M := a_ald (i := 0) (Or.inl ⟨0, rfl, hd, hp⟩) rfl kk
theorem a_al_0_4 {x1 x2 x3 : Option OV} {x : Obj} (hd : decode cc pc = .ok (.aload_n 0, 1)) (hp : pc + 1 = pc') (kk : AW G cc own 4 fr lo rt Φ pc' [some (.inr x), x1, x2, x3] (.inr x :: st) M) : AW G cc own 4 fr lo rt Φ pc [some (.inr x), x1, x2, x3] st M := a_ald (i := 0) (Or.inl ⟨0, rfl, hd, hp⟩) rfl kk
theorem a_al_0_5 {x1 x2 x3 x4 : Option OV} {x : Obj} (hd : decode cc pc = .ok (.aload_n 0, 1)) (hp : pc + 1 = pc') (kk : AW G cc own 5 fr lo rt Φ pc' [some (.inr x), x1, x2, x3, x4] (.inr x :: st) M) : AW G cc own 5 fr lo rt Φ pc [some (.inr x), x1, x2, x3, x4] st M := a_ald (i := 0) (Or.inl ⟨0, rfl, hd, hp⟩) rfl kk
theorem a_al_0_6 {x1 x2 x3 x4 x5 : Option OV} {x : Obj} (hd : decode cc pc = .ok (.aload_n 0, 1)) (hp : pc + 1 = pc') (kk : AW G cc own 6 fr lo rt Φ pc' [some (.inr x), x1, x2, x3, x4, x5] (.inr x :: st) M) : AW G cc own 6 fr lo rt Φ pc [some (.inr x), x1, x2, x3, x4, x5] st M := a_ald (i := 0) (Or.inl ⟨0, rfl, hd, hp⟩) rfl kk
theorem a_al_0_7 {x1 x2 x3 x4 x5 x6 : Option OV} {x : Obj} (hd : decode cc pc = .ok (.aload_n 0, 1)) (hp : pc + 1 = pc') (kk : AW G cc own 7 fr lo rt Φ pc' [some (.inr x), x1, x2, x3, x4, x5, x6] (.inr x :: st) M) : AW G cc own 7 fr lo rt Φ pc [some (.inr x), x1, x2, x3, x4, x5, x6] st M := a_ald (i := 0) (Or.inl ⟨0, rfl, hd, hp⟩) rfl kk
theorem a_al_0_9 {x1 x2 x3 x4 x5 x6 x7 x8 : Option OV} {x : Obj} (hd : decode cc pc = .ok (.aload_n 0, 1)) (hp : pc + 1 = pc') (kk : AW G cc own 9 fr lo rt Φ pc' [some (.inr x), x1, x2, x3, x4, x5, x6, x7, x8] (.inr x :: st) M) : AW G cc own 9 fr lo rt Φ pc [some (.inr x), x1, x2, x3, x4, x5, x6, x7, x8] st M := a_ald (i := 0) (Or.inl ⟨0, rfl, hd, hp⟩) rfl kk
theorem a_al_0_11 {x1 x2 x3 x4 x5 x6 x7 x8 x9 x10 : Option OV} {x : Obj} (hd : decode cc pc = .ok (.aload_n 0, 1)) (hp : pc + 1 = pc') (kk : AW G cc own 11 fr lo rt Φ pc' [some (.inr x), x1, x2, x3, x4, x5, x6, x7, x8, x9, x10] (.inr x :: st) M) : AW G cc own 11 fr lo rt Φ pc [some (.inr x), x1, x2, x3, x4, x5, x6, x7, x8, x9, x10] st M := a_ald (i := 0) (Or.inl ⟨0, rfl, hd, hp⟩) rfl kk
theorem a_al_1_2 {x0 : Option OV} {x : Obj} (hd : decode cc pc = .ok (.aload_n 1, 1)) (hp : pc + 1 = pc') (kk : AW G cc own 2 fr lo rt Φ pc' [x0, some (.inr x)] (.inr x :: st) M) : AW G cc own 2 fr lo rt Φ pc [x0, some (.inr x)] st M := a_ald (i := 1) (Or.inl ⟨1, rfl, hd, hp⟩) rfl kk
theorem a_al_1_3 {x0 x2 : Option OV} {x : Obj} (hd : decode cc pc = .ok (.aload_n 1, 1)) (hp : pc + 1 = pc') (kk : AW G cc own 3 fr lo rt Φ pc' [x0, some (.inr x), x2] (.inr x :: st) M) : AW G cc own 3 fr lo rt Φ pc [x0, some (.inr x), x2] st M := a_ald (i := 1) (Or.inl ⟨1, rfl, hd, hp⟩) rfl kk
theorem a_al_1_4 {x0 x2 x3 : Option OV} {x : Obj} (hd : decode cc pc = .ok (.aload_n 1, 1)) (hp : pc + 1 = pc') (kk : AW G cc own 4 fr lo rt Φ pc' [x0, some (.inr x), x2, x3] (.inr x :: st) M) : AW G cc own 4 fr lo rt Φ pc [x0, some (.inr x), x2, x3] st M := a_ald (i := 1) (Or.inl ⟨1, rfl, hd, hp⟩) rfl kk
theorem a_al_2_3 {x0 x1 : Option OV} {x : Obj} (hd : decode cc pc = .ok (.aload_n 2, 1)) (hp : pc + 1 = pc') (kk : AW G cc own 3 fr lo rt Φ pc' [x0, x1, some (.inr x)] (.inr x :: st) M) : AW G cc own 3 fr lo rt Φ pc [x0, x1, some (.inr x)] st M := a_ald (i := 2) (Or.inl ⟨2, rfl, hd, hp⟩) rfl kk
theorem a_al_2_4 {x0 x1 x3 : Option OV} {x : Obj} (hd : decode cc pc = .ok (.aload_n 2, 1)) (hp : pc + 1 = pc') (kk : AW G cc own 4 fr lo rt Φ pc' [x0, x1, some (.inr x), x3] (.inr x :: st) M) : AW G cc own 4 fr lo rt Φ pc [x0, x1, some (.inr x), x3] st M := a_ald (i := 2) (Or.inl ⟨2, rfl, hd, hp⟩) rfl kk
theorem a_al_2_5 {x0 x1 x3 x4 : Option OV} {x : Obj} (hd : decode cc pc = .ok (.aload_n 2, 1)) (hp : pc + 1 = pc') (kk : AW G cc own 5 fr lo rt Φ pc' [x0, x1, some (.inr x), x3, x4] (.inr x :: st) M) : AW G cc own 5 fr lo rt Φ pc [x0, x1, some (.inr x), x3, x4] st M := a_ald (i := 2) (Or.inl ⟨2, rfl, hd, hp⟩) rfl kk
theorem a_al_2_6 {x0 x1 x3 x4 x5 : Option OV} {x : Obj} (hd : decode cc pc = .ok (.aload_n 2, 1)) (hp : pc + 1 = pc') (kk : AW G cc own 6 fr lo rt Φ pc' [x0, x1, some (.inr x), x3, x4, x5] (.inr x :: st) M) : AW G cc own 6 fr lo rt Φ pc [x0, x1, some (.inr x), x3, x4, x5] st M := a_ald (i := 2) (Or.inl ⟨2, rfl, hd, hp⟩) rfl kk
theorem a_al_3_4 {x0 x1 x2 : Option OV} {x : Obj} (hd : decode cc pc = .ok (.aload_n 3, 1)) (hp : pc + 1 = pc') (kk : AW G cc own 4 fr lo rt Φ pc' [x0, x1, x2, some (.inr x)] (.inr x :: st) M) : AW G cc own 4 fr lo rt Φ pc [x0, x1, x2, some (.inr x)] st M := a_ald (i := 3) (Or.inl ⟨3, rfl, hd, hp⟩) rfl kk
theorem a_al_3_5 {x0 x1 x2 x4 : Option OV} {x : Obj} (hd : decode cc pc = .ok (.aload_n 3, 1)) (hp : pc + 1 = pc') (kk : AW G cc own 5 fr lo rt Φ pc' [x0, x1, x2, some (.inr x), x4] (.inr x :: st) M) : AW G cc own 5 fr lo rt Φ pc [x0, x1, x2, some (.inr x), x4] st M := a_ald (i := 3) (Or.inl ⟨3, rfl, hd, hp⟩) rfl kk
theorem a_al_4_5 {x0 x1 x2 x3 : Option OV} {x : Obj} (hd : decode cc pc = .ok (.aload 4, 2)) (hp : pc + 2 = pc') (kk : AW G cc own 5 fr lo rt Φ pc' [x0, x1, x2, x3, some (.inr x)] (.inr x :: st) M) : AW G cc own 5 fr lo rt Φ pc [x0, x1, x2, x3, some (.inr x)] st M := a_ald (i := 4) (Or.inr ⟨hd, hp⟩) rfl kk
theorem a_al_5_6 {x0 x1 x2 x3 x4 : Option OV} {x : Obj} (hd : decode cc pc = .ok (.aload 5, 2)) (hp : pc + 2 = pc') (kk : AW G cc own 6 fr lo rt Φ pc' [x0, x1, x2, x3, x4, some (.inr x)] (.inr x :: st) M) : AW G cc own 6 fr lo rt Φ pc [x0, x1, x2, x3, x4, some (.inr x)] st M := a_ald (i := 5) (Or.inr ⟨hd, hp⟩) rfl kk
theorem a_al_5_7 {x0 x1 x2 x3 x4 x6 : Option OV} {x : Obj} (hd : decode cc pc = .ok (.aload 5, 2)) (hp : pc + 2 = pc') (kk : AW G cc own 7 fr lo rt Φ pc' [x0, x1, x2, x3, x4, some (.inr x), x6] (.inr x :: st) M) : AW G cc own 7 fr lo rt Φ pc [x0, x1, x2, x3, x4, some (.inr x), x6] st M := a_ald (i := 5) (Or.inr ⟨hd, hp⟩) rfl kk
theorem a_al_7_11 {x0 x1 x2 x3 x4 x5 x6 x8 x9 x10 : Option OV} {x : Obj} (hd : decode cc pc = .ok (.aload 7, 2)) (hp : pc + 2 = pc') (kk : AW G cc own 11 fr lo rt Φ pc' [x0, x1, x2, x3, x4, x5, x6, some (.inr x), x8, x9, x10] (.inr x :: st) M) : AW G cc own 11 fr lo rt Φ pc [x0, x1, x2, x3, x4, x5, x6, some (.inr x), x8, x9, x10] st M := a_ald (i := 7) (Or.inr ⟨hd, hp⟩) rfl kk
theorem a_as_1_4 {x0 x2 x3 : Option OV} {y : Option OV} {x : Obj} (hd : decode cc pc = .ok (.astore_n 1, 1)) (hp : pc + 1 = pc') (kk : AW G cc own 4 fr lo rt Φ pc' [x0, some (.inr x), x2, x3] st M) : AW G cc own 4 fr lo rt Φ pc [x0, y, x2, x3] (.inr x :: st) M := a_ast (i := 1) (by decide) (Or.inl ⟨1, rfl, hd, hp⟩) kk
theorem a_as_2_3 {x0 x1 : Option OV} {y : Option OV} {x : Obj} (hd : decode cc pc = .ok (.astore_n 2, 1)) (hp : pc + 1 = pc') (kk : AW G cc own 3 fr lo rt Φ pc' [x0, x1, some (.inr x)] st M) : AW G cc own 3 fr lo rt Φ pc [x0, x1, y] (.inr x :: st) M := a_ast (i := 2) (by decide) (Or.inl ⟨2, rfl, hd, hp⟩) kk
theorem a_as_2_4 {x0 x1 x3 : Option OV} {y : Option OV} {x : Obj} (hd : decode cc pc = .ok (.astore_n 2, 1)) (hp : pc + 1 = pc') (kk : AW G cc own 4 fr lo rt Φ pc' [x0, x1, some (.inr x), x3] st M) : AW G cc own 4 fr lo rt Φ pc [x0, x1, y, x3] (.inr x :: st) M := a_ast (i := 2) (by decide) (Or.inl ⟨2, rfl, hd, hp⟩) kk
theorem a_as_2_5 {x0 x1 x3 x4 : Option OV} {y : Option OV} {x : Obj} (hd : decode cc pc = .ok (.astore_n 2, 1)) (hp : pc + 1 = pc') (kk : AW G cc own 5 fr lo rt Φ pc' [x0, x1, some (.inr x), x3, x4] st M) : AW G cc own 5 fr lo rt Φ pc [x0, x1, y, x3, x4] (.inr x :: st) M := a_ast (i := 2) (by decide) (Or.inl ⟨2, rfl, hd, hp⟩) kk
theorem a_as_3_4 {x0 x1 x2 : Option OV} {y : Option OV} {x : Obj} (hd : decode cc pc = .ok (.astore_n 3, 1)) (hp : pc + 1 = pc') (kk : AW G cc own 4 fr lo rt Φ pc' [x0, x1, x2, some (.inr x)] st M) : AW G cc own 4 fr lo rt Φ pc [x0, x1, x2, y] (.inr x :: st) M := a_ast (i := 3) (by decide) (Or.inl ⟨3, rfl, hd, hp⟩) kk
theorem a_as_3_5 {x0 x1 x2 x4 : Option OV} {y : Option OV} {x : Obj} (hd : decode cc pc = .ok (.astore_n 3, 1)) (hp : pc + 1 = pc') (kk : AW G cc own 5 fr lo rt Φ pc' [x0, x1, x2, some (.inr x), x4] st M) : AW G cc own 5 fr lo rt Φ pc [x0, x1, x2, y, x4] (.inr x :: st) M := a_ast (i := 3) (by decide) (Or.inl ⟨3, rfl, hd, hp⟩) kk
theorem a_as_4_5 {x0 x1 x2 x3 : Option OV} {y : Option OV} {x : Obj} (hd : decode cc pc = .ok (.astore 4, 2)) (hp : pc + 2 = pc') (kk : AW G cc own 5 fr lo rt Φ pc' [x0, x1, x2, x3, some (.inr x)] st M) : AW G cc own 5 fr lo rt Φ pc [x0, x1, x2, x3, y] (.inr x :: st) M := a_ast (i := 4) (by decide) (Or.inr ⟨hd, hp⟩) kk
theorem a_as_5_6 {x0 x1 x2 x3 x4 : Option OV} {y : Option OV} {x : Obj} (hd : decode cc pc = .ok (.astore 5, 2)) (hp : pc + 2 = pc') (kk : AW G cc own 6 fr lo rt Φ pc' [x0, x1, x2, x3, x4, some (.inr x)] st M) : AW G cc own 6 fr lo rt Φ pc [x0, x1, x2, x3, x4, y] (.inr x :: st) M := a_ast (i := 5) (by decide) (Or.inr ⟨hd, hp⟩) kk
theorem a_as_5_7 {x0 x1 x2 x3 x4 x6 : Option OV} {y : Option OV} {x : Obj} (hd : decode cc pc = .ok (.astore 5, 2)) (hp : pc + 2 = pc') (kk : AW G cc own 7 fr lo rt Φ pc' [x0, x1, x2, x3, x4, some (.inr x), x6] st M) : AW G cc own 7 fr lo rt Φ pc [x0, x1, x2, x3, x4, y, x6] (.inr x :: st) M := a_ast (i := 5) (by decide) (Or.inr ⟨hd, hp⟩) kk
theorem a_as_7_11 {x0 x1 x2 x3 x4 x5 x6 x8 x9 x10 : Option OV} {y : Option OV} {x : Obj} (hd : decode cc pc = .ok (.astore 7, 2)) (hp : pc + 2 = pc') (kk : AW G cc own 11 fr lo rt Φ pc' [x0, x1, x2, x3, x4, x5, x6, some (.inr x), x8, x9, x10] st M) : AW G cc own 11 fr lo rt Φ pc [x0, x1, x2, x3, x4, x5, x6, y, x8, x9, x10] (.inr x :: st) M := a_ast (i := 7) (by decide) (Or.inr ⟨hd, hp⟩) kk
theorem a_in_1_2 {x0 : Option OV} {x c9 : Int32} {n9 : Int} (hd : decode cc pc = .ok (.iinc 1 n9, 3)) (hv : Int32.ofInt n9 = c9) (hp : pc + 3 = pc') (kk : AW G cc own 2 fr lo rt Φ pc' [x0, some (.inl (x + c9))] st M) : AW G cc own 2 fr lo rt Φ pc [x0, some (.inl x)] st M := a_inc (i := 1) (by decide) hd rfl (by rw [hv]) hp kk
theorem a_in_1_3 {x0 x2 : Option OV} {x c9 : Int32} {n9 : Int} (hd : decode cc pc = .ok (.iinc 1 n9, 3)) (hv : Int32.ofInt n9 = c9) (hp : pc + 3 = pc') (kk : AW G cc own 3 fr lo rt Φ pc' [x0, some (.inl (x + c9)), x2] st M) : AW G cc own 3 fr lo rt Φ pc [x0, some (.inl x), x2] st M := a_inc (i := 1) (by decide) hd rfl (by rw [hv]) hp kk
theorem a_in_1_4 {x0 x2 x3 : Option OV} {x c9 : Int32} {n9 : Int} (hd : decode cc pc = .ok (.iinc 1 n9, 3)) (hv : Int32.ofInt n9 = c9) (hp : pc + 3 = pc') (kk : AW G cc own 4 fr lo rt Φ pc' [x0, some (.inl (x + c9)), x2, x3] st M) : AW G cc own 4 fr lo rt Φ pc [x0, some (.inl x), x2, x3] st M := a_inc (i := 1) (by decide) hd rfl (by rw [hv]) hp kk
theorem a_in_1_5 {x0 x2 x3 x4 : Option OV} {x c9 : Int32} {n9 : Int} (hd : decode cc pc = .ok (.iinc 1 n9, 3)) (hv : Int32.ofInt n9 = c9) (hp : pc + 3 = pc') (kk : AW G cc own 5 fr lo rt Φ pc' [x0, some (.inl (x + c9)), x2, x3, x4] st M) : AW G cc own 5 fr lo rt Φ pc [x0, some (.inl x), x2, x3, x4] st M := a_inc (i := 1) (by decide) hd rfl (by rw [hv]) hp kk
theorem a_in_2_3 {x0 x1 : Option OV} {x c9 : Int32} {n9 : Int} (hd : decode cc pc = .ok (.iinc 2 n9, 3)) (hv : Int32.ofInt n9 = c9) (hp : pc + 3 = pc') (kk : AW G cc own 3 fr lo rt Φ pc' [x0, x1, some (.inl (x + c9))] st M) : AW G cc own 3 fr lo rt Φ pc [x0, x1, some (.inl x)] st M := a_inc (i := 2) (by decide) hd rfl (by rw [hv]) hp kk
theorem a_in_2_4 {x0 x1 x3 : Option OV} {x c9 : Int32} {n9 : Int} (hd : decode cc pc = .ok (.iinc 2 n9, 3)) (hv : Int32.ofInt n9 = c9) (hp : pc + 3 = pc') (kk : AW G cc own 4 fr lo rt Φ pc' [x0, x1, some (.inl (x + c9)), x3] st M) : AW G cc own 4 fr lo rt Φ pc [x0, x1, some (.inl x), x3] st M := a_inc (i := 2) (by decide) hd rfl (by rw [hv]) hp kk
theorem a_in_2_5 {x0 x1 x3 x4 : Option OV} {x c9 : Int32} {n9 : Int} (hd : decode cc pc = .ok (.iinc 2 n9, 3)) (hv : Int32.ofInt n9 = c9) (hp : pc + 3 = pc') (kk : AW G cc own 5 fr lo rt Φ pc' [x0, x1, some (.inl (x + c9)), x3, x4] st M) : AW G cc own 5 fr lo rt Φ pc [x0, x1, some (.inl x), x3, x4] st M := a_inc (i := 2) (by decide) hd rfl (by rw [hv]) hp kk
theorem a_in_2_7 {x0 x1 x3 x4 x5 x6 : Option OV} {x c9 : Int32} {n9 : Int} (hd : decode cc pc = .ok (.iinc 2 n9, 3)) (hv : Int32.ofInt n9 = c9) (hp : pc + 3 = pc') (kk : AW G cc own 7 fr lo rt Φ pc' [x0, x1, some (.inl (x + c9)), x3, x4, x5, x6] st M) : AW G cc own 7 fr lo rt Φ pc [x0, x1, some (.inl x), x3, x4, x5, x6] st M := a_inc (i := 2) (by decide) hd rfl (by rw [hv]) hp kk
theorem a_in_3_4 {x0 x1 x2 : Option OV} {x c9 : Int32} {n9 : Int} (hd : decode cc pc = .ok (.iinc 3 n9, 3)) (hv : Int32.ofInt n9 = c9) (hp : pc + 3 = pc') (kk : AW G cc own 4 fr lo rt Φ pc' [x0, x1, x2, some (.inl (x + c9))] st M) : AW G cc own 4 fr lo rt Φ pc [x0, x1, x2, some (.inl x)] st M := a_inc (i := 3) (by decide) hd rfl (by rw [hv]) hp kk
theorem a_in_3_5 {x0 x1 x2 x4 : Option OV} {x c9 : Int32} {n9 : Int} (hd : decode cc pc = .ok (.iinc 3 n9, 3)) (hv : Int32.ofInt n9 = c9) (hp : pc + 3 = pc') (kk : AW G cc own 5 fr lo rt Φ pc' [x0, x1, x2, some (.inl (x + c9)), x4] st M) : AW G cc own 5 fr lo rt Φ pc [x0, x1, x2, some (.inl x), x4] st M := a_inc (i := 3) (by decide) hd rfl (by rw [hv]) hp kk
theorem a_in_3_6 {x0 x1 x2 x4 x5 : Option OV} {x c9 : Int32} {n9 : Int} (hd : decode cc pc = .ok (.iinc 3 n9, 3)) (hv : Int32.ofInt n9 = c9) (hp : pc + 3 = pc') (kk : AW G cc own 6 fr lo rt Φ pc' [x0, x1, x2, some (.inl (x + c9)), x4, x5] st M) : AW G cc own 6 fr lo rt Φ pc [x0, x1, x2, some (.inl x), x4, x5] st M := a_inc (i := 3) (by decide) hd rfl (by rw [hv]) hp kk
theorem a_in_4_5 {x0 x1 x2 x3 : Option OV} {x c9 : Int32} {n9 : Int} (hd : decode cc pc = .ok (.iinc 4 n9, 3)) (hv : Int32.ofInt n9 = c9) (hp : pc + 3 = pc') (kk : AW G cc own 5 fr lo rt Φ pc' [x0, x1, x2, x3, some (.inl (x + c9))] st M) : AW G cc own 5 fr lo rt Φ pc [x0, x1, x2, x3, some (.inl x)] st M := a_inc (i := 4) (by decide) hd rfl (by rw [hv]) hp kk
theorem a_in_4_6 {x0 x1 x2 x3 x5 : Option OV} {x c9 : Int32} {n9 : Int} (hd : decode cc pc = .ok (.iinc 4 n9, 3)) (hv : Int32.ofInt n9 = c9) (hp : pc + 3 = pc') (kk : AW G cc own 6 fr lo rt Φ pc' [x0, x1, x2, x3, some (.inl (x + c9)), x5] st M) : AW G cc own 6 fr lo rt Φ pc [x0, x1, x2, x3, some (.inl x), x5] st M := a_inc (i := 4) (by decide) hd rfl (by rw [hv]) hp kk
theorem a_in_4_7 {x0 x1 x2 x3 x5 x6 : Option OV} {x c9 : Int32} {n9 : Int} (hd : decode cc pc = .ok (.iinc 4 n9, 3)) (hv : Int32.ofInt n9 = c9) (hp : pc + 3 = pc') (kk : AW G cc own 7 fr lo rt Φ pc' [x0, x1, x2, x3, some (.inl (x + c9)), x5, x6] st M) : AW G cc own 7 fr lo rt Φ pc [x0, x1, x2, x3, some (.inl x), x5, x6] st M := a_inc (i := 4) (by decide) hd rfl (by rw [hv]) hp kk
theorem a_in_5_6 {x0 x1 x2 x3 x4 : Option OV} {x c9 : Int32} {n9 : Int} (hd : decode cc pc = .ok (.iinc 5 n9, 3)) (hv : Int32.ofInt n9 = c9) (hp : pc + 3 = pc') (kk : AW G cc own 6 fr lo rt Φ pc' [x0, x1, x2, x3, x4, some (.inl (x + c9))] st M) : AW G cc own 6 fr lo rt Φ pc [x0, x1, x2, x3, x4, some (.inl x)] st M := a_inc (i := 5) (by decide) hd rfl (by rw [hv]) hp kk
theorem a_in_5_9 {x0 x1 x2 x3 x4 x6 x7 x8 : Option OV} {x c9 : Int32} {n9 : Int} (hd : decode cc pc = .ok (.iinc 5 n9, 3)) (hv : Int32.ofInt n9 = c9) (hp : pc + 3 = pc') (kk : AW G cc own 9 fr lo rt Φ pc' [x0, x1, x2, x3, x4, some (.inl (x + c9)), x6, x7, x8] st M) : AW G cc own 9 fr lo rt Φ pc [x0, x1, x2, x3, x4, some (.inl x), x6, x7, x8] st M := a_inc (i := 5) (by decide) hd rfl (by rw [hv]) hp kk
theorem a_in_6_9 {x0 x1 x2 x3 x4 x5 x7 x8 : Option OV} {x c9 : Int32} {n9 : Int} (hd : decode cc pc = .ok (.iinc 6 n9, 3)) (hv : Int32.ofInt n9 = c9) (hp : pc + 3 = pc') (kk : AW G cc own 9 fr lo rt Φ pc' [x0, x1, x2, x3, x4, x5, some (.inl (x + c9)), x7, x8] st M) : AW G cc own 9 fr lo rt Φ pc [x0, x1, x2, x3, x4, x5, some (.inl x), x7, x8] st M := a_inc (i := 6) (by decide) hd rfl (by rw [hv]) hp kk
theorem a_in_7_9 {x0 x1 x2 x3 x4 x5 x6 x8 : Option OV} {x c9 : Int32} {n9 : Int} (hd : decode cc pc = .ok (.iinc 7 n9, 3)) (hv : Int32.ofInt n9 = c9) (hp : pc + 3 = pc') (kk : AW G cc own 9 fr lo rt Φ pc' [x0, x1, x2, x3, x4, x5, x6, some (.inl (x + c9)), x8] st M) : AW G cc own 9 fr lo rt Φ pc [x0, x1, x2, x3, x4, x5, x6, some (.inl x), x8] st M := a_inc (i := 7) (by decide) hd rfl (by rw [hv]) hp kk
theorem a_in_8_9 {x0 x1 x2 x3 x4 x5 x6 x7 : Option OV} {x c9 : Int32} {n9 : Int} (hd : decode cc pc = .ok (.iinc 8 n9, 3)) (hv : Int32.ofInt n9 = c9) (hp : pc + 3 = pc') (kk : AW G cc own 9 fr lo rt Φ pc' [x0, x1, x2, x3, x4, x5, x6, x7, some (.inl (x + c9))] st M) : AW G cc own 9 fr lo rt Φ pc [x0, x1, x2, x3, x4, x5, x6, x7, some (.inl x)] st M := a_inc (i := 8) (by decide) hd rfl (by rw [hv]) hp kk
theorem a_in_8_11 {x0 x1 x2 x3 x4 x5 x6 x7 x9 x10 : Option OV} {x c9 : Int32} {n9 : Int} (hd : decode cc pc = .ok (.iinc 8 n9, 3)) (hv : Int32.ofInt n9 = c9) (hp : pc + 3 = pc') (kk : AW G cc own 11 fr lo rt Φ pc' [x0, x1, x2, x3, x4, x5, x6, x7, some (.inl (x + c9)), x9, x10] st M) : AW G cc own 11 fr lo rt Φ pc [x0, x1, x2, x3, x4, x5, x6, x7, some (.inl x), x9, x10] st M := a_inc (i := 8) (by decide) hd rfl (by rw [hv]) hp kk
theorem a_in_9_11 {x0 x1 x2 x3 x4 x5 x6 x7 x8 x10 : Option OV} {x c9 : Int32} {n9 : Int} (hd : decode cc pc = .ok (.iinc 9 n9, 3)) (hv : Int32.ofInt n9 = c9) (hp : pc + 3 = pc') (kk : AW G cc own 11 fr lo rt Φ pc' [x0, x1, x2, x3, x4, x5, x6, x7, x8, some (.inl (x + c9)), x10] st M) : AW G cc own 11 fr lo rt Φ pc [x0, x1, x2, x3, x4, x5, x6, x7, x8, some (.inl x), x10] st M := a_inc (i := 9) (by decide) hd rfl (by rw [hv]) hp kk
theorem a_in_10_11 {x0 x1 x2 x3 x4 x5 x6 x7 x8 x9 : Option OV} {x c9 : Int32} {n9 : Int} (hd : decode cc pc = .ok (.iinc 10 n9, 3)) (hv : Int32.ofInt n9 = c9) (hp : pc + 3 = pc') (kk : AW G cc own 11 fr lo rt Φ pc' [x0, x1, x2, x3, x4, x5, x6, x7, x8, x9, some (.inl (x + c9))] st M) : AW G cc own 11 fr lo rt Φ pc [x0, x1, x2, x3, x4, x5, x6, x7, x8, x9, some (.inl x)] st M := a_inc (i := 10) (by decide) hd rfl (by rw [hv]) hp kk
theorem a_il_0_1 {x : Int32} (hd : decode cc pc = .ok (.iload_n 0, 1)) (hp : pc + 1 = pc') (kk : AW G cc own 1 fr lo rt Φ pc' [some (.inl x)] (.inl x :: st) M) : AW G cc own 1 fr lo rt Φ pc [some (.inl x)] st M := a_ild (i := 0) (Or.inl ⟨0, rfl, hd, hp⟩) rfl kk
theorem a_il_0_2 {x1 : Option OV} {x : Int32} (hd : decode cc pc = .ok (.iload_n 0, 1)) (hp : pc + 1 = pc') (kk : AW G cc own 2 fr lo rt Φ pc' [some (.inl x), x1] (.inl x :: st) M) : AW G cc own 2 fr lo rt Φ pc [some (.inl x), x1] st M := a_ild (i := 0) (Or.inl ⟨0, rfl, hd, hp⟩) rfl kk
theorem a_il_0_3 {x1 x2 : Option OV} {x : Int32} (hd : decode cc pc = .ok (.iload_n 0, 1)) (hp : pc + 1 = pc') (kk : AW G cc own 3 fr lo rt Φ pc' [some (.inl x), x1, x2] (.inl x :: st) M) : AW G cc own 3 fr lo rt Φ pc [some (.inl x), x1, x2] st M := a_ild (i := 0) (Or.inl ⟨0, rfl, hd, hp⟩) rfl kk
theorem a_il_1_2 {x0 : Option OV} {x : Int32} (hd : decode cc pc = .ok (.iload_n 1, 1)) (hp : pc + 1 = pc') (kk : AW G cc own 2 fr lo rt Φ pc' [x0, some (.inl x)] (.inl x :: st) M) : AW G cc own 2 fr lo rt Φ pc [x0, some (.inl x)] st M := a_ild (i := 1) (Or.inl ⟨1, rfl, hd, hp⟩) rfl kk
theorem a_il_1_3 {x0 x2 : Option OV} {x : Int32} (hd : decode cc pc = .ok (.iload_n 1, 1)) (hp : pc + 1 = pc') (kk : AW G cc own 3 fr lo rt Φ pc' [x0, some (.inl x), x2] (.inl x :: st) M) : AW G cc own 3 fr lo rt Φ pc [x0, some (.inl x), x2] st M := a_ild (i := 1) (Or.inl ⟨1, rfl, hd, hp⟩) rfl kk
theorem a_il_1_4 {x0 x2 x3 : Option OV} {x : Int32} (hd : decode cc pc = .ok (.iload_n 1, 1)) (hp : pc + 1 = pc') (kk : AW G cc own 4 fr lo rt Φ pc' [x0, some (.inl x), x2, x3] (.inl x :: st) M) : AW G cc own 4 fr lo rt Φ pc [x0, some (.inl x), x2, x3] st M := a_ild (i := 1) (Or.inl ⟨1, rfl, hd, hp⟩) rfl kk
theorem a_il_1_5 {x0 x2 x3 x4 : Option OV} {x : Int32} (hd : decode cc pc = .ok (.iload_n 1, 1)) (hp : pc + 1 = pc') (kk : AW G cc own 5 fr lo rt Φ pc' [x0, some (.inl x), x2, x3, x4] (.inl x :: st) M) : AW G cc own 5 fr lo rt Φ pc [x0, some (.inl x), x2, x3, x4] st M := a_ild (i := 1) (Or.inl ⟨1, rfl, hd, hp⟩) rfl kk
theorem a_il_1_6 {x0 x2 x3 x4 x5 : Option OV} {x : Int32} (hd : decode cc pc = .ok (.iload_n 1, 1)) (hp : pc + 1 = pc') (kk : AW G cc own 6 fr lo rt Φ pc' [x0, some (.inl x), x2, x3, x4, x5] (.inl x :: st) M) : AW G cc own 6 fr lo rt Φ pc [x0, some (.inl x), x2, x3, x4, x5] st M := a_ild (i := 1) (Or.inl ⟨1, rfl, hd, hp⟩) rfl kk
theorem a_il_1_7 {x0 x2 x3 x4 x5 x6 : Option OV} {x : Int32} (hd : decode cc pc = .ok (.iload_n 1, 1)) (hp : pc + 1 = pc') (kk : AW G cc own 7 fr lo rt Φ pc' [x0, some (.inl x), x2, x3, x4, x5, x6] (.inl x :: st) M) : AW G cc own 7 fr lo rt Φ pc [x0, some (.inl x), x2, x3, x4, x5, x6] st M := a_ild (i := 1) (Or.inl ⟨1, rfl, hd, hp⟩) rfl kk
theorem a_il_1_9 {x0 x2 x3 x4 x5 x6 x7 x8 : Option OV} {x : Int32} (hd : decode cc pc = .ok (.iload_n 1, 1)) (hp : pc + 1 = pc') (kk : AW G cc own 9 fr lo rt Φ pc' [x0, some (.inl x), x2, x3, x4, x5, x6, x7, x8] (.inl x :: st) M) : AW G cc own 9 fr lo rt Φ pc [x0, some (.inl x), x2, x3, x4, x5, x6, x7, x8] st M := a_ild (i := 1) (Or.inl ⟨1, rfl, hd, hp⟩) rfl kk
theorem a_il_1_11 {x0 x2 x3 x4 x5 x6 x7 x8 x9 x10 : Option OV} {x : Int32} (hd : decode cc pc = .ok (.iload_n 1, 1)) (hp : pc + 1 = pc') (kk : AW G cc own 11 fr lo rt Φ pc' [x0, some (.inl x), x2, x3, x4, x5, x6, x7, x8, x9, x10] (.inl x :: st) M) : AW G cc own 11 fr lo rt Φ pc [x0, some (.inl x), x2, x3, x4, x5, x6, x7, x8, x9, x10] st M := a_ild (i := 1) (Or.inl ⟨1, rfl, hd, hp⟩) rfl kk
theorem a_il_2_3 {x0 x1 : Option OV} {x : Int32} (hd : decode cc pc = .ok (.iload_n 2, 1)) (hp : pc + 1 = pc') (kk : AW G cc own 3 fr lo rt Φ pc' [x0, x1, some (.inl x)] (.inl x :: st) M) : AW G cc own 3 fr lo rt Φ pc [x0, x1, some (.inl x)] st M := a_ild (i := 2) (Or.inl ⟨2, rfl, hd, hp⟩) rfl kk
theorem a_il_2_4 {x0 x1 x3 : Option OV} {x : Int32} (hd : decode cc pc = .ok (.iload_n 2, 1)) (hp : pc + 1 = pc') (kk : AW G cc own 4 fr lo rt Φ pc' [x0, x1, some (.inl x), x3] (.inl x :: st) M) : AW G cc own 4 fr lo rt Φ pc [x0, x1, some (.inl x), x3] st M := a_ild (i := 2) (Or.inl ⟨2, rfl, hd, hp⟩) rfl kk
theorem a_il_2_5 {x0 x1 x3 x4 : Option OV} {x : Int32} (hd : decode cc pc = .ok (.iload_n 2, 1)) (hp : pc + 1 = pc') (kk : AW G cc own 5 fr lo rt Φ pc' [x0, x1, some (.inl x), x3, x4] (.inl x :: st) M) : AW G cc own 5 fr lo rt Φ pc [x0, x1, some (.inl x), x3, x4] st M := a_ild (i := 2) (Or.inl ⟨2, rfl, hd, hp⟩) rfl kk
theorem a_il_2_6 {x0 x1 x3 x4 x5 : Option OV} {x : Int32} (hd : decode cc pc = .ok (.iload_n 2, 1)) (hp : pc + 1 = pc') (kk : AW G cc own 6 fr lo rt Φ pc' [x0, x1, some (.inl x), x3, x4, x5] (.inl x :: st) M) : AW G cc own 6 fr lo rt Φ pc [x0, x1, some (.inl x), x3, x4, x5] st M := a_ild (i := 2) (Or.inl ⟨2, rfl, hd, hp⟩) rfl kk
theorem a_il_2_7 {x0 x1 x3 x4 x5 x6 : Option OV} {x : Int32} (hd : decode cc pc = .ok (.iload_n 2, 1)) (hp : pc + 1 = pc') (kk : AW G cc own 7 fr lo rt Φ pc' [x0, x1, some (.inl x), x3, x4, x5, x6] (.inl x :: st) M) : AW G cc own 7 fr lo rt Φ pc [x0, x1, some (.inl x), x3, x4, x5, x6] st M := a_ild (i := 2) (Or.inl ⟨2, rfl, hd, hp⟩) rfl kk
theorem a_il_2_9 {x0 x1 x3 x4 x5 x6 x7 x8 : Option OV} {x : Int32} (hd : decode cc pc = .ok (.iload_n 2, 1)) (hp : pc + 1 = pc') (kk : AW G cc own 9 fr lo rt Φ pc' [x0, x1, some (.inl x), x3, x4, x5, x6, x7, x8] (.inl x :: st) M) : AW G cc own 9 fr lo rt Φ pc [x0, x1, some (.inl x), x3, x4, x5, x6, x7, x8] st M := a_ild (i := 2) (Or.inl ⟨2, rfl, hd, hp⟩) rfl kk
theorem a_il_2_11 {x0 x1 x3 x4 x5 x6 x7 x8 x9 x10 : Option OV} {x : Int32} (hd : decode cc pc = .ok (.iload_n 2, 1)) (hp : pc + 1 = pc') (kk : AW G cc own 11 fr lo rt Φ pc' [x0, x1, some (.inl x), x3, x4, x5, x6, x7, x8, x9, x10] (.inl x :: st) M) : AW G cc own 11 fr lo rt Φ pc [x0, x1, some (.inl x), x3, x4, x5, x6, x7, x8, x9, x10] st M := a_ild (i := 2) (Or.inl ⟨2, rfl, hd, hp⟩) rfl kk
theorem a_il_3_4 {x0 x1 x2 : Option OV} {x : Int32} (hd : decode cc pc = .ok (.iload_n 3, 1)) (hp : pc + 1 = pc') (kk : AW G cc own 4 fr lo rt Φ pc' [x0, x1, x2, some (.inl x)] (.inl x :: st) M) : AW G cc own 4 fr lo rt Φ pc [x0, x1, x2, some (.inl x)] st M := a_ild (i := 3) (Or.inl ⟨3, rfl, hd, hp⟩) rfl kk
theorem a_il_3_5 {x0 x1 x2 x4 : Option OV} {x : Int32} (hd : decode cc pc = .ok (.iload_n 3, 1)) (hp : pc + 1 = pc') (kk : AW G cc own 5 fr lo rt Φ pc' [x0, x1, x2, some (.inl x), x4] (.inl x :: st) M) : AW G cc own 5 fr lo rt Φ pc [x0, x1, x2, some (.inl x), x4] st M := a_ild (i := 3) (Or.inl ⟨3, rfl, hd, hp⟩) rfl kk
theorem a_il_3_6 {x0 x1 x2 x4 x5 : Option OV} {x : Int32} (hd : decode cc pc = .ok (.iload_n 3, 1)) (hp : pc + 1 = pc') (kk : AW G cc own 6 fr lo rt Φ pc' [x0, x1, x2, some (.inl x), x4, x5] (.inl x :: st) M) : AW G cc own 6 fr lo rt Φ pc [x0, x1, x2, some (.inl x), x4, x5] st M := a_ild (i := 3) (Or.inl ⟨3, rfl, hd, hp⟩) rfl kk
theorem a_il_3_7 {x0 x1 x2 x4 x5 x6 : Option OV} {x : Int32} (hd : decode cc pc = .ok (.iload_n 3, 1)) (hp : pc + 1 = pc') (kk : AW G cc own 7 fr lo rt Φ pc' [x0, x1, x2, some (.inl x), x4, x5, x6] (.inl x :: st) M) : AW G cc own 7 fr lo rt Φ pc [x0, x1, x2, some (.inl x), x4, x5, x6] st M := a_ild (i := 3) (Or.inl ⟨3, rfl, hd, hp⟩) rfl kk
theorem a_il_3_9 {x0 x1 x2 x4 x5 x6 x7 x8 : Option OV} {x : Int32} (hd : decode cc pc = .ok (.iload_n 3, 1)) (hp : pc + 1 = pc') (kk : AW G cc own 9 fr lo rt Φ pc' [x0, x1, x2, some (.inl x), x4, x5, x6, x7, x8] (.inl x :: st) M) : AW G cc own 9 fr lo rt Φ pc [x0, x1, x2, some (.inl x), x4, x5, x6, x7, x8] st M := a_ild (i := 3) (Or.inl ⟨3, rfl, hd, hp⟩) rfl kk
theorem a_il_3_11 {x0 x1 x2 x4 x5 x6 x7 x8 x9 x10 : Option OV} {x : Int32} (hd : decode cc pc = .ok (.iload_n 3, 1)) (hp : pc + 1 = pc') (kk : AW G cc own 11 fr lo rt Φ pc' [x0, x1, x2, some (.inl x), x4, x5, x6, x7, x8, x9, x10] (.inl x :: st) M) : AW G cc own 11 fr lo rt Φ pc [x0, x1, x2, some (.inl x), x4, x5, x6, x7, x8, x9, x10] st M := a_ild (i := 3) (Or.inl ⟨3, rfl, hd, hp⟩) rfl kk
theorem a_il_4_5 {x0 x1 x2 x3 : Option OV} {x : Int32} (hd : decode cc pc = .ok (.iload 4, 2)) (hp : pc + 2 = pc') (kk : AW G cc own 5 fr lo rt Φ pc' [x0, x1, x2, x3, some (.inl x)] (.inl x :: st) M) : AW G cc own 5 fr lo rt Φ pc [x0, x1, x2, x3, some (.inl x)] st M := a_ild (i := 4) (Or.inr ⟨hd, hp⟩) rfl kk
theorem a_il_4_6 {x0 x1 x2 x3 x5 : Option OV} {x : Int32} (hd : decode cc pc = .ok (.iload 4, 2)) (hp : pc + 2 = pc') (kk : AW G cc own 6 fr lo rt Φ pc' [x0, x1, x2, x3, some (.inl x), x5] (.inl x :: st) M) : AW G cc own 6 fr lo rt Φ pc [x0, x1, x2, x3, some (.inl x), x5] st M := a_ild (i := 4) (Or.inr ⟨hd, hp⟩) rfl kk
theorem a_il_4_7 {x0 x1 x2 x3 x5 x6 : Option OV} {x : Int32} (hd : decode cc pc = .ok (.iload 4, 2)) (hp : pc + 2 = pc') (kk : AW G cc own 7 fr lo rt Φ pc' [x0, x1, x2, x3, some (.inl x), x5, x6] (.inl x :: st) M) : AW G cc own 7 fr lo rt Φ pc [x0, x1, x2, x3, some (.inl x), x5, x6] st M := a_ild (i := 4) (Or.inr ⟨hd, hp⟩) rfl kk
theorem a_il_4_9 {x0 x1 x2 x3 x5 x6 x7 x8 : Option OV} {x : Int32} (hd : decode cc pc = .ok (.iload 4, 2)) (hp : pc + 2 = pc') (kk : AW G cc own 9 fr lo rt Φ pc' [x0, x1, x2, x3, some (.inl x), x5, x6, x7, x8] (.inl x :: st) M) : AW G cc own 9 fr lo rt Φ pc [x0, x1, x2, x3, some (.inl x), x5, x6, x7, x8] st M := a_ild (i := 4) (Or.inr ⟨hd, hp⟩) rfl kk
theorem a_il_4_11 {x0 x1 x2 x3 x5 x6 x7 x8 x9 x10 : Option OV} {x : Int32} (hd : decode cc pc = .ok (.iload 4, 2)) (hp : pc + 2 = pc') (kk : AW G cc own 11 fr lo rt Φ pc' [x0, x1, x2, x3, some (.inl x), x5, x6, x7, x8, x9, x10] (.inl x :: st) M) : AW G cc own 11 fr lo rt Φ pc [x0, x1, x2, x3, some (.inl x), x5, x6, x7, x8, x9, x10] st M := a_ild (i := 4) (Or.inr ⟨hd, hp⟩) rfl kk
theorem a_il_5_6 {x0 x1 x2 x3 x4 : Option OV} {x : Int32} (hd : decode cc pc = .ok (.iload 5, 2)) (hp : pc + 2 = pc') (kk : AW G cc own 6 fr lo rt Φ pc' [x0, x1, x2, x3, x4, some (.inl x)] (.inl x :: st) M) : AW G cc own 6 fr lo rt Φ pc [x0, x1, x2, x3, x4, some (.inl x)] st M := a_ild (i := 5) (Or.inr ⟨hd, hp⟩) rfl kk
theorem a_il_5_7 {x0 x1 x2 x3 x4 x6 : Option OV} {x : Int32} (hd : decode cc pc = .ok (.iload 5, 2)) (hp : pc + 2 = pc') (kk : AW G cc own 7 fr lo rt Φ pc' [x0, x1, x2, x3, x4, some (.inl x), x6] (.inl x :: st) M) : AW G cc own 7 fr lo rt Φ pc [x0, x1, x2, x3, x4, some (.inl x), x6] st M := a_ild (i := 5) (Or.inr ⟨hd, hp⟩) rfl kk
theorem a_il_5_9 {x0 x1 x2 x3 x4 x6 x7 x8 : Option OV} {x : Int32} (hd : decode cc pc = .ok (.iload 5, 2)) (hp : pc + 2 = pc') (kk : AW G cc own 9 fr lo rt Φ pc' [x0, x1, x2, x3, x4, some (.inl x), x6, x7, x8] (.inl x :: st) M) : AW G cc own 9 fr lo rt Φ pc [x0, x1, x2, x3, x4, some (.inl x), x6, x7, x8] st M := a_ild (i := 5) (Or.inr ⟨hd, hp⟩) rfl kk
theorem a_il_5_11 {x0 x1 x2 x3 x4 x6 x7 x8 x9 x10 : Option OV} {x : Int32} (hd : decode cc pc = .ok (.iload 5, 2)) (hp : pc + 2 = pc') (kk : AW G cc own 11 fr lo rt Φ pc' [x0, x1, x2, x3, x4, some (.inl x), x6, x7, x8, x9, x10] (.inl x :: st) M) : AW G cc own 11 fr lo rt Φ pc [x0, x1, x2, x3, x4, some (.inl x), x6, x7, x8, x9, x10] st M := a_ild (i := 5) (Or.inr ⟨hd, hp⟩) rfl kk
theorem a_il_6_7 {x0 x1 x2 x3 x4 x5 : Option OV} {x : Int32} (hd : decode cc pc = .ok (.iload 6, 2)) (hp : pc + 2 = pc') (kk : AW G cc own 7 fr lo rt Φ pc' [x0, x1, x2, x3, x4, x5, some (.inl x)] (.inl x :: st) M) : AW G cc own 7 fr lo rt Φ pc [x0, x1, x2, x3, x4, x5, some (.inl x)] st M := a_ild (i := 6) (Or.inr ⟨hd, hp⟩) rfl kk
theorem a_il_6_9 {x0 x1 x2 x3 x4 x5 x7 x8 : Option OV} {x : Int32} (hd : decode cc pc = .ok (.iload 6, 2)) (hp : pc + 2 = pc') (kk : AW G cc own 9 fr lo rt Φ pc' [x0, x1, x2, x3, x4, x5, some (.inl x), x7, x8] (.inl x :: st) M) : AW G cc own 9 fr lo rt Φ pc [x0, x1, x2, x3, x4, x5, some (.inl x), x7, x8] st M := a_ild (i := 6) (Or.inr ⟨hd, hp⟩) rfl kk
theorem a_il_6_11 {x0 x1 x2 x3 x4 x5 x7 x8 x9 x10 : Option OV} {x : Int32} (hd : decode cc pc = .ok (.iload 6, 2)) (hp : pc + 2 = pc') (kk : AW G cc own 11 fr lo rt Φ pc' [x0, x1, x2, x3, x4, x5, some (.inl x), x7, x8, x9, x10] (.inl x :: st) M) : AW G cc own 11 fr lo rt Φ pc [x0, x1, x2, x3, x4, x5, some (.inl x), x7, x8, x9, x10] st M := a_ild (i := 6) (Or.inr ⟨hd, hp⟩) rfl kk
theorem a_il_7_9 {x0 x1 x2 x3 x4 x5 x6 x8 : Option OV} {x : Int32} (hd : decode cc pc = .ok (.iload 7, 2)) (hp : pc + 2 = pc') (kk : AW G cc own 9 fr lo rt Φ pc' [x0, x1, x2, x3, x4, x5, x6, some (.inl x), x8] (.inl x :: st) M) : AW G cc own 9 fr lo rt Φ pc [x0, x1, x2, x3, x4, x5, x6, some (.inl x), x8] st M := a_ild (i := 7) (Or.inr ⟨hd, hp⟩) rfl kk
theorem a_il_7_11 {x0 x1 x2 x3 x4 x5 x6 x8 x9 x10 : Option OV} {x : Int32} (hd : decode cc pc = .ok (.iload 7, 2)) (hp : pc + 2 = pc') (kk : AW G cc own 11 fr lo rt Φ pc' [x0, x1, x2, x3, x4, x5, x6, some (.inl x), x8, x9, x10] (.inl x :: st) M) : AW G cc own 11 fr lo rt Φ pc [x0, x1, x2, x3, x4, x5, x6, some (.inl x), x8, x9, x10] st M := a_ild (i := 7) (Or.inr ⟨hd, hp⟩) rfl kk
theorem a_il_8_9 {x0 x1 x2 x3 x4 x5 x6 x7 : Option OV} {x : Int32} (hd : decode cc pc = .ok (.iload 8, 2)) (hp : pc + 2 = pc') (kk : AW G cc own 9 fr lo rt Φ pc' [x0, x1, x2, x3, x4, x5, x6, x7, some (.inl x)] (.inl x :: st) M) : AW G cc own 9 fr lo rt Φ pc [x0, x1, x2, x3, x4, x5, x6, x7, some (.inl x)] st M := a_ild (i := 8) (Or.inr ⟨hd, hp⟩) rfl kk
theorem a_il_8_11 {x0 x1 x2 x3 x4 x5 x6 x7 x9 x10 : Option OV} {x : Int32} (hd : decode cc pc = .ok (.iload 8, 2)) (hp : pc + 2 = pc') (kk : AW G cc own 11 fr lo rt Φ pc' [x0, x1, x2, x3, x4, x5, x6, x7, some (.inl x), x9, x10] (.inl x :: st) M) : AW G cc own 11 fr lo rt Φ pc [x0, x1, x2, x3, x4, x5, x6, x7, some (.inl x), x9, x10] st M := a_ild (i := 8) (Or.inr ⟨hd, hp⟩) rfl kk
theorem a_il_9_11 {x0 x1 x2 x3 x4 x5 x6 x7 x8 x10 : Option OV} {x : Int32} (hd : decode cc pc = .ok (.iload 9, 2)) (hp : pc + 2 = pc') (kk : AW G cc own 11 fr lo rt Φ pc' [x0, x1, x2, x3, x4, x5, x6, x7, x8, some (.inl x), x10] (.inl x :: st) M) : AW G cc own 11 fr lo rt Φ pc [x0, x1, x2, x3, x4, x5, x6, x7, x8, some (.inl x), x10] st M := a_ild (i := 9) (Or.inr ⟨hd, hp⟩) rfl kk
theorem a_il_10_11 {x0 x1 x2 x3 x4 x5 x6 x7 x8 x9 : Option OV} {x : Int32} (hd : decode cc pc = .ok (.iload 10, 2)) (hp : pc + 2 = pc') (kk : AW G cc own 11 fr lo rt Φ pc' [x0, x1, x2, x3, x4, x5, x6, x7, x8, x9, some (.inl x)] (.inl x :: st) M) : AW G cc own 11 fr lo rt Φ pc [x0, x1, x2, x3, x4, x5, x6, x7, x8, x9, some (.inl x)] st M := a_ild (i := 10) (Or.inr ⟨hd, hp⟩) rfl kk
theorem a_is_0_1 {y : Option OV} {x : Int32} (hd : decode cc pc = .ok (.istore_n 0, 1)) (hp : pc + 1 = pc') (kk : AW G cc own 1 fr lo rt Φ pc' [some (.inl x)] st M) : AW G cc own 1 fr lo rt Φ pc [y] (.inl x :: st) M := a_ist (i := 0) (by decide) (Or.inl ⟨0, rfl, hd, hp⟩) kk
theorem a_is_1_2 {x0 : Option OV} {y : Option OV} {x : Int32} (hd : decode cc pc = .ok (.istore_n 1, 1)) (hp : pc + 1 = pc') (kk : AW G cc own 2 fr lo rt Φ pc' [x0, some (.inl x)] st M) : AW G cc own 2 fr lo rt Φ pc [x0, y] (.inl x :: st) M := a_ist (i := 1) (by decide) (Or.inl ⟨1, rfl, hd, hp⟩) kk
theorem a_is_1_3 {x0 x2 : Option OV} {y : Option OV} {x : Int32} (hd : decode cc pc = .ok (.istore_n 1, 1)) (hp : pc + 1 = pc') (kk : AW G cc own 3 fr lo rt Φ pc' [x0, some (.inl x), x2] st M) : AW G cc own 3 fr lo rt Φ pc [x0, y, x2] (.inl x :: st) M := a_ist (i := 1) (by decide) (Or.inl ⟨1, rfl, hd, hp⟩) kk
theorem a_is_1_4 {x0 x2 x3 : Option OV} {y : Option OV} {x : Int32} (hd : decode cc pc = .ok (.istore_n 1, 1)) (hp : pc + 1 = pc') (kk : AW G cc own 4 fr lo rt Φ pc' [x0, some (.inl x), x2, x3] st M) : AW G cc own 4 fr lo rt Φ pc [x0, y, x2, x3] (.inl x :: st) M := a_ist (i := 1) (by decide) (Or.inl ⟨1, rfl, hd, hp⟩) kk
theorem a_is_1_5 {x0 x2 x3 x4 : Option OV} {y : Option OV} {x : Int32} (hd : decode cc pc = .ok (.istore_n 1, 1)) (hp : pc + 1 = pc') (kk : AW G cc own 5 fr lo rt Φ pc' [x0, some (.inl x), x2, x3, x4] st M) : AW G cc own 5 fr lo rt Φ pc [x0, y, x2, x3, x4] (.inl x :: st) M := a_ist (i := 1) (by decide) (Or.inl ⟨1, rfl, hd, hp⟩) kk
theorem a_is_2_3 {x0 x1 : Option OV} {y : Option OV} {x : Int32} (hd : decode cc pc = .ok (.istore_n 2, 1)) (hp : pc + 1 = pc') (kk : AW G cc own 3 fr lo rt Φ pc' [x0, x1, some (.inl x)] st M) : AW G cc own 3 fr lo rt Φ pc [x0, x1, y] (.inl x :: st) M := a_ist (i := 2) (by decide) (Or.inl ⟨2, rfl, hd, hp⟩) kk
theorem a_is_2_4 {x0 x1 x3 : Option OV} {y : Option OV} {x : Int32} (hd : decode cc pc = .ok (.istore_n 2, 1)) (hp : pc + 1 = pc') (kk : AW G cc own 4 fr lo rt Φ pc' [x0, x1, some (.inl x), x3] st M) : AW G cc own 4 fr lo rt Φ pc [x0, x1, y, x3] (.inl x :: st) M := a_ist (i := 2) (by decide) (Or.inl ⟨2, rfl, hd, hp⟩) kk
theorem a_is_2_5 {x0 x1 x3 x4 : Option OV} {y : Option OV} {x : Int32} (hd : decode cc pc = .ok (.istore_n 2, 1)) (hp : pc + 1 = pc') (kk : AW G cc own 5 fr lo rt Φ pc' [x0, x1, some (.inl x), x3, x4] st M) : AW G cc own 5 fr lo rt Φ pc [x0, x1, y, x3, x4] (.inl x :: st) M := a_ist (i := 2) (by decide) (Or.inl ⟨2, rfl, hd, hp⟩) kk
theorem a_is_2_7 {x0 x1 x3 x4 x5 x6 : Option OV} {y : Option OV} {x : Int32} (hd : decode cc pc = .ok (.istore_n 2, 1)) (hp : pc + 1 = pc') (kk : AW G cc own 7 fr lo rt Φ pc' [x0, x1, some (.inl x), x3, x4, x5, x6] st M) : AW G cc own 7 fr lo rt Φ pc [x0, x1, y, x3, x4, x5, x6] (.inl x :: st) M := a_ist (i := 2) (by decide) (Or.inl ⟨2, rfl, hd, hp⟩) kk
theorem a_is_3_4 {x0 x1 x2 : Option OV} {y : Option OV} {x : Int32} (hd : decode cc pc = .ok (.istore_n 3, 1)) (hp : pc + 1 = pc') (kk : AW G cc own 4 fr lo rt Φ pc' [x0, x1, x2, some (.inl x)] st M) : AW G cc own 4 fr lo rt Φ pc [x0, x1, x2, y] (.inl x :: st) M := a_ist (i := 3) (by decide) (Or.inl ⟨3, rfl, hd, hp⟩) kk
theorem a_is_3_5 {x0 x1 x2 x4 : Option OV} {y : Option OV} {x : Int32} (hd : decode cc pc = .ok (.istore_n 3, 1)) (hp : pc + 1 = pc') (kk : AW G cc own 5 fr lo rt Φ pc' [x0, x1, x2, some (.inl x), x4] st M) : AW G cc own 5 fr lo rt Φ pc [x0, x1, x2, y, x4] (.inl x :: st) M := a_ist (i := 3) (by decide) (Or.inl ⟨3, rfl, hd, hp⟩) kk
theorem a_is_3_6 {x0 x1 x2 x4 x5 : Option OV} {y : Option OV} {x : Int32} (hd : decode cc pc = .ok (.istore_n 3, 1)) (hp : pc + 1 = pc') (kk : AW G cc own 6 fr lo rt Φ pc' [x0, x1, x2, some (.inl x), x4, x5] st M) : AW G cc own 6 fr lo rt Φ pc [x0, x1, x2, y, x4, x5] (.inl x :: st) M := a_ist (i := 3) (by decide) (Or.inl ⟨3, rfl, hd, hp⟩) kk
theorem a_is_3_7 {x0 x1 x2 x4 x5 x6 : Option OV} {y : Option OV} {x : Int32} (hd : decode cc pc = .ok (.istore_n 3, 1)) (hp : pc + 1 = pc') (kk : AW G cc own 7 fr lo rt Φ pc' [x0, x1, x2, some (.inl x), x4, x5, x6] st M) : AW G cc own 7 fr lo rt Φ pc [x0, x1, x2, y, x4, x5, x6] (.inl x :: st) M := a_ist (i := 3) (by decide) (Or.inl ⟨3, rfl, hd, hp⟩) kk
theorem a_is_3_9 {x0 x1 x2 x4 x5 x6 x7 x8 : Option OV} {y : Option OV} {x : Int32} (hd : decode cc pc = .ok (.istore_n 3, 1)) (hp : pc + 1 = pc') (kk : AW G cc own 9 fr lo rt Φ pc' [x0, x1, x2, some (.inl x), x4, x5, x6, x7, x8] st M) : AW G cc own 9 fr lo rt Φ pc [x0, x1, x2, y, x4, x5, x6, x7, x8] (.inl x :: st) M := a_ist (i := 3) (by decide) (Or.inl ⟨3, rfl, hd, hp⟩) kk
theorem a_is_4_5 {x0 x1 x2 x3 : Option OV} {y : Option OV} {x : Int32} (hd : decode cc pc = .ok (.istore 4, 2)) (hp : pc + 2 = pc') (kk : AW G cc own 5 fr lo rt Φ pc' [x0, x1, x2, x3, some (.inl x)] st M) : AW G cc own 5 fr lo rt Φ pc [x0, x1, x2, x3, y] (.inl x :: st) M := a_ist (i := 4) (by decide) (Or.inr ⟨hd, hp⟩) kk
theorem a_is_4_6 {x0 x1 x2 x3 x5 : Option OV} {y : Option OV} {x : Int32} (hd : decode cc pc = .ok (.istore 4, 2)) (hp : pc + 2 = pc') (kk : AW G cc own 6 fr lo rt Φ pc' [x0, x1, x2, x3, some (.inl x), x5] st M) : AW G cc own 6 fr lo rt Φ pc [x0, x1, x2, x3, y, x5] (.inl x :: st) M := a_ist (i := 4) (by decide) (Or.inr ⟨hd, hp⟩) kk
theorem a_is_4_7 {x0 x1 x2 x3 x5 x6 : Option OV} {y : Option OV} {x : Int32} (hd : decode cc pc = .ok (.istore 4, 2)) (hp : pc + 2 = pc') (kk : AW G cc own 7 fr lo rt Φ pc' [x0, x1, x2, x3, some (.inl x), x5, x6] st M) : AW G cc own 7 fr lo rt Φ pc [x0, x1, x2, x3, y, x5, x6] (.inl x :: st) M := a_ist (i := 4) (by decide) (Or.inr ⟨hd, hp⟩) kk
theorem a_is_4_9 {x0 x1 x2 x3 x5 x6 x7 x8 : Option OV} {y : Option OV} {x : Int32} (hd : decode cc pc = .ok (.istore 4, 2)) (hp : pc + 2 = pc') (kk : AW G cc own 9 fr lo rt Φ pc' [x0, x1, x2, x3, some (.inl x), x5, x6, x7, x8] st M) : AW G cc own 9 fr lo rt Φ pc [x0, x1, x2, x3, y, x5, x6, x7, x8] (.inl x :: st) M := a_ist (i := 4) (by decide) (Or.inr ⟨hd, hp⟩) kk
theorem a_is_5_6 {x0 x1 x2 x3 x4 : Option OV} {y : Option OV} {x : Int32} (hd : decode cc pc = .ok (.istore 5, 2)) (hp : pc + 2 = pc') (kk : AW G cc own 6 fr lo rt Φ pc' [x0, x1, x2, x3, x4, some (.inl x)] st M) : AW G cc own 6 fr lo rt Φ pc [x0, x1, x2, x3, x4, y] (.inl x :: st) M := a_ist (i := 5) (by decide) (Or.inr ⟨hd, hp⟩) kk
theorem a_is_5_7 {x0 x1 x2 x3 x4 x6 : Option OV} {y : Option OV} {x : Int32} (hd : decode cc pc = .ok (.istore 5, 2)) (hp : pc + 2 = pc') (kk : AW G cc own 7 fr lo rt Φ pc' [x0, x1, x2, x3, x4, some (.inl x), x6] st M) : AW G cc own 7 fr lo rt Φ pc [x0, x1, x2, x3, x4, y, x6] (.inl x :: st) M := a_ist (i := 5) (by decide) (Or.inr ⟨hd, hp⟩) kk
theorem a_is_5_9 {x0 x1 x2 x3 x4 x6 x7 x8 : Option OV} {y : Option OV} {x : Int32} (hd : decode cc pc = .ok (.istore 5, 2)) (hp : pc + 2 = pc') (kk : AW G cc own 9 fr lo rt Φ pc' [x0, x1, x2, x3, x4, some (.inl x), x6, x7, x8] st M) : AW G cc own 9 fr lo rt Φ pc [x0, x1, x2, x3, x4, y, x6, x7, x8] (.inl x :: st) M := a_ist (i := 5) (by decide) (Or.inr ⟨hd, hp⟩) kk
theorem a_is_6_7 {x0 x1 x2 x3 x4 x5 : Option OV} {y : Option OV} {x : Int32} (hd : decode cc pc = .ok (.istore 6, 2)) (hp : pc + 2 = pc') (kk : AW G cc own 7 fr lo rt Φ pc' [x0, x1, x2, x3, x4, x5, some (.inl x)] st M) : AW G cc own 7 fr lo rt Φ pc [x0, x1, x2, x3, x4, x5, y] (.inl x :: st) M := a_ist (i := 6) (by decide) (Or.inr ⟨hd, hp⟩) kk
theorem a_is_6_9 {x0 x1 x2 x3 x4 x5 x7 x8 : Option OV} {y : Option OV} {x : Int32} (hd : decode cc pc = .ok (.istore 6, 2)) (hp : pc + 2 = pc') (kk : AW G cc own 9 fr lo rt Φ pc' [x0, x1, x2, x3, x4, x5, some (.inl x), x7, x8] st M) : AW G cc own 9 fr lo rt Φ pc [x0, x1, x2, x3, x4, x5, y, x7, x8] (.inl x :: st) M := a_ist (i := 6) (by decide) (Or.inr ⟨hd, hp⟩) kk
theorem a_is_7_9 {x0 x1 x2 x3 x4 x5 x6 x8 : Option OV} {y : Option OV} {x : Int32} (hd : decode cc pc = .ok (.istore 7, 2)) (hp : pc + 2 = pc') (kk : AW G cc own 9 fr lo rt Φ pc' [x0, x1, x2, x3, x4, x5, x6, some (.inl x), x8] st M) : AW G cc own 9 fr lo rt Φ pc [x0, x1, x2, x3, x4, x5, x6, y, x8] (.inl x :: st) M := a_ist (i := 7) (by decide) (Or.inr ⟨hd, hp⟩) kk
theorem a_is_7_11 {x0 x1 x2 x3 x4 x5 x6 x8 x9 x10 : Option OV} {y : Option OV} {x : Int32} (hd : decode cc pc = .ok (.istore 7, 2)) (hp : pc + 2 = pc') (kk : AW G cc own 11 fr lo rt Φ pc' [x0, x1, x2, x3, x4, x5, x6, some (.inl x), x8, x9, x10] st M) : AW G cc own 11 fr lo rt Φ pc [x0, x1, x2, x3, x4, x5, x6, y, x8, x9, x10] (.inl x :: st) M := a_ist (i := 7) (by decide) (Or.inr ⟨hd, hp⟩) kk
theorem a_is_8_9 {x0 x1 x2 x3 x4 x5 x6 x7 : Option OV} {y : Option OV} {x : Int32} (hd : decode cc pc = .ok (.istore 8, 2)) (hp : pc + 2 = pc') (kk : AW G cc own 9 fr lo rt Φ pc' [x0, x1, x2, x3, x4, x5, x6, x7, some (.inl x)] st M) : AW G cc own 9 fr lo rt Φ pc [x0, x1, x2, x3, x4, x5, x6, x7, y] (.inl x :: st) M := a_ist (i := 8) (by decide) (Or.inr ⟨hd, hp⟩) kk
theorem a_is_8_11 {x0 x1 x2 x3 x4 x5 x6 x7 x9 x10 : Option OV} {y : Option OV} {x : Int32} (hd : decode cc pc = .ok (.istore 8, 2)) (hp : pc + 2 = pc') (kk : AW G cc own 11 fr lo rt Φ pc' [x0, x1, x2, x3, x4, x5, x6, x7, some (.inl x), x9, x10] st M) : AW G cc own 11 fr lo rt Φ pc [x0, x1, x2, x3, x4, x5, x6, x7, y, x9, x10] (.inl x :: st) M := a_ist (i := 8) (by decide) (Or.inr ⟨hd, hp⟩) kk
theorem a_is_9_11 {x0 x1 x2 x3 x4 x5 x6 x7 x8 x10 : Option OV} {y : Option OV} {x : Int32} (hd : decode cc pc = .ok (.istore 9, 2)) (hp : pc + 2 = pc') (kk : AW G cc own 11 fr lo rt Φ pc' [x0, x1, x2, x3, x4, x5, x6, x7, x8, some (.inl x), x10] st M) : AW G cc own 11 fr lo rt Φ pc [x0, x1, x2, x3, x4, x5, x6, x7, x8, y, x10] (.inl x :: st) M := a_ist (i := 9) (by decide) (Or.inr ⟨hd, hp⟩) kk
theorem a_is_10_11 {x0 x1 x2 x3 x4 x5 x6 x7 x8 x9 : Option OV} {y : Option OV} {x : Int32} (hd : decode cc pc = .ok (.istore 10, 2)) (hp : pc + 2 = pc') (kk : AW G cc own 11 fr lo rt Φ pc' [x0, x1, x2, x3, x4, x5, x6, x7, x8, x9, some (.inl x)] st M) : AW G cc own 11 fr lo rt Φ pc [x0, x1, x2, x3, x4, x5, x6, x7, x8, x9, y] (.inl x :: st) M := a_ist (i := 10) (by decide) (Or.inr ⟨hd, hp⟩) kk
theorem a_iret {x : Int32} {ty : FieldType} (hd : decode cc pc = .ok (.ireturn, 1)) (hr : rt = some ty) (hn : narrow ty (.int x) = .int x) (hΦ : Φ (some (.inl x)) M) : AW G cc own nL fr lo rt Φ pc ls [.inl x] M := by
  intro A p l e R s m args below meth c cells slots Z H locs lsA hF hR hM hS hL
  exact hR (some (.inl x)) M H locs lsA pc hΦ hM hS ⟨⟨ty, hr, hn⟩, hd⟩
theorem a_vret (hd : decode cc pc = .ok (.return_, 1)) (hr : rt = none) (hΦ : Φ none M) : AW G cc own nL fr lo rt Φ pc ls [] M := by
  intro A p l e R s m args below meth c cells slots Z H locs lsA hF hR hM hS hL
  exact hR none M H locs lsA pc hΦ hM hS ⟨hr, hd⟩
theorem a_aret {x : Obj} {t : FieldType} (hd : decode cc pc = .ok (.areturn, 1)) (hr : rt = some (.array t)) (hΦ : Φ (some (.inr x)) M) : AW G cc own nL fr lo rt Φ pc ls [.inr x] M := by
  intro A p l e R s m args below meth c cells slots Z H locs lsA hF hR hM hS hL
  exact hR (some (.inr x)) M H locs lsA pc hΦ hM hS ⟨⟨t, hr⟩, hd⟩
theorem a_ext {M' : Mm} (h : ∀ r i, okO (ow r i) = true → M r i = M' r i) (kk : AW G cc own nL fr lo rt Φ pc ls st M') : AW G cc own nL fr lo rt Φ pc ls st M := by
  intro A p l e R s m args below meth c cells slots Z H locs lsA hF hR hM hS hL
  exact kk A p l e R s m args below meth c cells slots Z H locs lsA hF hR (hM.ext h) hS hL
theorem a_mem {M' : Mm} (h : M = M') (kk : AW G cc own nL fr lo rt Φ pc ls st M') : AW G cc own nL fr lo rt Φ pc ls st M := h ▸ kk
end Rows
end
section
section Objs
variable {G : Gl} {cc : ByteArray} {own : String} {nL fr lo : Nat} {rt : Option FieldType} {Φ : Option OV → Mm → Prop} {pc pc' : Nat} {ls : List (Option OV)} {st : List OV} {M : Mm}
theorem a_get {x : Obj} {ci : Nat} {fs : List Value} {C : String} {T : u_T} {N index : Nat} {v : OV} (ho : okO x = true) (he : ent G M x = .inr (ci, fs)) (hc : vwCl[ci]? = some (C, T, N)) (hin : ∀ w ∈ u_ws C T N, w ∈ lw_tbl) (k : Nat) (hk : k < N) (hw : Cond.fieldLink own index (T k).1 (T k).2.1 (T k).2.2.1 ∈ lw_tbl) (hv : fs[k]? = some (vlv G v)) (hd : decode cc pc = .ok (.getfield index, 3)) (hp : pc + 3 = pc') (kk : AW G cc own nL fr lo rt Φ pc' ls (v :: st) M) : AW G cc own nL fr lo rt Φ pc ls (.inr x :: st) M := by
  subst hp
  intro A p l e R s m args below meth c cells slots Z H locs lsA hF hR hM hS hL
  have hP : va_P G.1 vwCl [(G.2.1 x, .inr (ci, fs))] H := fun j q hj => by
    have hz : j < 1 := (List.getElem?_eq_some_iff.mp hj).1
    rw [show j = 0 by omega] at hj
    cases hj
    have := hM x ho
    rw [he] at this
    exact this
  exact va_get (ws := [(G.2.1 x, .inr (ci, fs))]) hF.1 hF.2.1 (Ts := u_ws C T N) (fun w h => hF.use (hin w h) (u_ws_ok w h)) (fun w h => h) hF.2.2.2.1 hF.2.2.2.2.2.2.2.2.1.1 hP 0 rfl hc k hk (hF.use hw rfl) (fun _ h => h) hv hd (kk A p l e R s m args below meth c cells slots Z H locs lsA hF hR hM hS hL)
theorem a_put {x : Obj} {ci : Nat} {fs : List Value} {C : String} {T : u_T} {N index r i : Nat} {y : Int32} {ty : FieldType} (ho : okO x = true) (he : ent G M x = .inr (ci, fs)) (hc : vwCl[ci]? = some (C, T, N)) (hin : ∀ w ∈ u_ws C T N, w ∈ lw_tbl) (ty0 : Nat → FieldType) (hty : ∀ k, k < N → parseFieldDescriptor (T k).2.2.1 = some (ty0 k)) (hnm : ∀ a, a < N → ∀ b, b < N → a ≠ b → (T a).2.1 ≠ (T b).2.1) (k : Nat) (hk : k < N) (hw : Cond.fieldLink own index (T k).1 (T k).2.1 (T k).2.2.1 ∈ lw_tbl) (hfin : (T k).2.2.2 = false) (hdt : parseFieldDescriptor (T k).2.2.1 = some ty) (hn : narrow ty (.int y) = .int y) (hfit : fits ty (.int y) = true) (hl : k < fs.length)
    (how : ow r i = x) (hnew : ent G (wr M r i y) x = .inr (ci, fs.set k (.int y))) (hd : decode cc pc = .ok (.putfield index, 3)) (hp : pc + 3 = pc') (kk : AW G cc own nL fr lo rt Φ pc' ls st (wr M r i y)) : AW G cc own nL fr lo rt Φ pc ls (.inl y :: .inr x :: st) M := by
  subst hp
  intro A p l e R s m args below meth c cells slots Z H locs lsA hF hR hM hS hL
  have hts : ∀ w ∈ u_ws C T N, w.before args s = true := fun w h => hF.use (hin w h) (u_ws_ok w h)
  have hK := hF.2.2.2.2.2.2.2.2.1.1
  have hap := va_apart (own := own) hts (fun w h => h) ty0 hty hnm hK hc
  have hx := hM x ho
  rw [he] at hx
  obtain ⟨q', h1, cell, q1, q2, q3, q4⟩ := hx
  have hr : q' = (C, T, N) := Option.some.inj (h1.symm.trans hc)
  subst hr
  obtain ⟨hSl, hfc, kC, hkC, hkind⟩ := hK.1 ci _ hc
  obtain ⟨cf, kf, fi, f, hi, hsl⟩ := hSl k hk
  have hlay := hts _ (u_in_lay hk)
  unfold u_lay at hlay
  rw [if_neg (by rw [hfin]; decide)] at hlay
  have hst := (u_facts hfc hkC (u_lays hts (fun w h => h) hk) hi).1
  have h6 := u_store hfc hkC hkind hlay hi hdt hn hfit
  refine W.putK hF.1 hF.2.1 (f := f) ⟨hF.2.2.2.1, hF.use hw rfl, ⟨_, _, _, hi⟩, hst⟩ (by rw [q2]; exact h6) q1 q3 (by rw [hsl]; exact k2_hasslot (q4 k hk)) rfl rfl hd fun H' e1 e2 e3 => ?_
  rw [hsl] at e1 ⊢
  refine kk A p l e R s m args below meth c cells slots Z H' _ lsA hF hR ?_ (hS.put e2 e3 (hF.2.2.2.2.2.2.2.2.2.2.2 _ ⟨x, ho, rfl⟩)) hL
  refine Mem.put hF.2.2.2.2.2.2.2.2.2.2.1 hM ho how ?_ e3
  rw [hnew]
  exact ⟨_, hc, t_OB.to (V := updV (vp_V fs) k (.int y)) ⟨_, e1, q2, q3, t_set q4 hap hk (.int y)⟩ (fun j _ => vp_updV_set hl (.int y) j)⟩
theorem wr_row (M : Mm) (r i : Nat) (y : Int32) : wr M r i y r = upd (M r) i y := by
  funext j
  by_cases h : j = i <;> simp [wr, upd, h]
theorem a_iald {r n : Nat} {i : Int32} (ho : okO (9, r, n, 0) = true) (hi : vp_in i n) (hd : decode cc pc = .ok (.iaload, 1)) (hp : pc + 1 = pc') (kk : AW G cc own nL fr lo rt Φ pc' ls (.inl (M r i.toNatClampNeg) :: st) M) : AW G cc own nL fr lo rt Φ pc ls (.inl i :: .inr (9, r, n, 0) :: st) M := by
  subst hp
  intro A p l e R s m args below meth c cells slots Z H locs lsA hF hR hM hS hL
  have hP : va_P G.1 vwCl [(G.2.1 (9, r, n, 0), .inl (G.2.2 9, n, .inl (M r)))] H := fun j q hj => by
    have hz : j < 1 := (List.getElem?_eq_some_iff.mp hj).1
    rw [show j = 0 by omega] at hj
    cases hj
    exact hM _ ho
  exact va_iald (D := G.1) (cl := vwCl) (tys := tysG G) hF.1 hF.2.1 hF.2.2.2.2.2.2.2.2.1.1 hP 0 1 rfl rfl hi hd (kk A p l e R s m args below meth c cells slots Z H locs lsA hF hR hM hS hL)
theorem ow8 {r n c i : Nat} (h : okO (8, r, n, c) = true) : ow r i = (8, r, n, c) := by
  simp only [okO, decide_eq_true_eq] at h
  obtain ⟨rfl, rfl, rfl⟩ := h
  rfl
theorem a_cald0 {r n : Nat} {i : Int32} (ho : okO (8, r, n, 0) = true) (hi : vp_in i n) (hd : decode cc pc = .ok (.caload, 1)) (hp : pc + 1 = pc') (kk : AW G cc own nL fr lo rt Φ pc' ls (.inl (M r i.toNatClampNeg) :: st) M) : AW G cc own nL fr lo rt Φ pc ls (.inl i :: .inr (8, r, n, 0) :: st) M := by
  subst hp
  intro A p l e R s m args below meth c cells slots Z H locs lsA hF hR hM hS hL
  have hP : va_P G.1 vwCl [(G.2.1 (8, r, n, 0), .inl (G.2.2 8, n, .inl (M r)))] H := fun j q hj => by
    have hz : j < 1 := (List.getElem?_eq_some_iff.mp hj).1
    rw [show j = 0 by omega] at hj
    cases hj
    exact hM _ ho
  exact va_cald (D := G.1) (cl := vwCl) (tys := tysG G) hF.1 hF.2.1 hF.2.2.2.2.2.2.2.2.1.1 hP 0 0 rfl rfl hi hd (kk A p l e R s m args below meth c cells slots Z H locs lsA hF hR hM hS hL)
theorem a_cald {i : Int32} (hi : vp_in i 80) (hd : decode cc pc = .ok (.caload, 1)) (hp : pc + 1 = pc') (kk : AW G cc own nL fr lo rt Φ pc' ls (.inl (M 22 i.toNatClampNeg) :: st) M) : AW G cc own nL fr lo rt Φ pc ls (.inl i :: .inr (8, 22, 80, 0) :: st) M := a_cald0 (r := 22) (n := 80) rfl hi hd hp kk
theorem upd_updV (f : Nat → Int32) (i : Nat) (y : Int32) : (fun j => Value.int (upd f i y j)) = updV (fun j => .int (f j)) i (.int y) := by
  funext j
  by_cases h : j = i <;> simp [updV, upd, h]
theorem a_iast {r n : Nat} {i y : Int32} (ho : okO (9, r, n, 0) = true) (hi : vp_in i n) (hd : decode cc pc = .ok (.iastore, 1)) (hp : pc + 1 = pc') (kk : AW G cc own nL fr lo rt Φ pc' ls st (wr M r i.toNatClampNeg y)) : AW G cc own nL fr lo rt Φ pc ls (.inl y :: .inl i :: .inr (9, r, n, 0) :: st) M := by
  subst hp
  intro A p l e R s m args below meth c cells slots Z H locs lsA hF hR hM hS hL
  have hx := hM _ ho
  refine W.iast hF.1 hF.2.1 (cell := vp_cell (G.2.2 9) (n, .inl (M r))) hx ((hF.2.2.2.2.2.2.2.2.1.1.2 1 _ rfl).1 n (fun j => .int (M r j))) (fun q => by cases q) (by show ¬ (i < 0 ∨ (arrV _ _ _).slots.size ≤ _); rw [arrV_size]; exact hi) rfl rfl hd fun H' e1 e2 e3 => ?_
  refine kk A p l e R s m args below meth c cells slots Z H' _ lsA hF hR ?_ (hS.put e2 e3 (hF.2.2.2.2.2.2.2.2.2.2.2 _ ⟨_, ho, rfl⟩)) hL
  refine Mem.put hF.2.2.2.2.2.2.2.2.2.2.1 hM ho (ow9 ho) ?_ e3
  show H'[_]? = some (vp_cell (G.2.2 9) (n, .inl (wr M r i.toNatClampNeg y r)))
  rw [e1, wr_row, vp_cell_i, vp_cell_i, arrV_store, upd_updV]
theorem a_cast0 {r n : Nat} {i y : Int32} (ho : okO (8, r, n, 0) = true) (hi : vp_in i n) (hy : narrow .char (.int y) = .int y) (hd : decode cc pc = .ok (.castore, 1)) (hp : pc + 1 = pc') (kk : AW G cc own nL fr lo rt Φ pc' ls st (wr M r i.toNatClampNeg y)) : AW G cc own nL fr lo rt Φ pc ls (.inl y :: .inl i :: .inr (8, r, n, 0) :: st) M := by
  subst hp
  intro A p l e R s m args below meth c cells slots Z H locs lsA hF hR hM hS hL
  have hx := hM _ ho
  refine W.cast hF.1 hF.2.1 (cell := vp_cell (G.2.2 8) (n, .inl (M r))) hx ((hF.2.2.2.2.2.2.2.2.1.1.2 0 _ rfl).1 n (fun j => .int (M r j))) (fun q => by cases q) (by show ¬ (i < 0 ∨ (arrV _ _ _).slots.size ≤ _); rw [arrV_size]; exact hi) rfl rfl hd fun H' e1 e2 e3 => ?_
  refine kk A p l e R s m args below meth c cells slots Z H' _ lsA hF hR ?_ (hS.put e2 e3 (hF.2.2.2.2.2.2.2.2.2.2.2 _ ⟨_, ho, rfl⟩)) hL
  refine Mem.put hF.2.2.2.2.2.2.2.2.2.2.1 hM ho (ow8 ho) ?_ e3
  show H'[_]? = some (vp_cell (G.2.2 8) (n, .inl (wr M r i.toNatClampNeg y r)))
  rw [e1, hy, wr_row, vp_cell_i, vp_cell_i, arrV_store, upd_updV]
theorem a_cast {i y : Int32} (hi : vp_in i 80) (hy : narrow .char (.int y) = .int y) (hd : decode cc pc = .ok (.castore, 1)) (hp : pc + 1 = pc') (kk : AW G cc own nL fr lo rt Φ pc' ls st (wr M 22 i.toNatClampNeg y)) : AW G cc own nL fr lo rt Φ pc ls (.inl y :: .inl i :: .inr (8, 22, 80, 0) :: st) M := a_cast0 (r := 22) (n := 80) rfl hi hy hd hp kk
theorem a_aald {x y : Obj} {kd n t0 : Nat} {f : Nat → Obj} {ty : FieldType} {i : Int32} (ho : okO x = true) (he : ent G M x = .inl (G.2.2 kd, n, .inr (.inr (.inr (.inr (rfR G n f)))))) (ht : (tysG G)[t0]? = some (G.2.2 kd, ty)) (hty : ty.isReference = true) (hi : vp_in i n) (hy : f i.toNatClampNeg = y) (hd : decode cc pc = .ok (.aaload, 1)) (hp : pc + 1 = pc') (kk : AW G cc own nL fr lo rt Φ pc' ls (.inr y :: st) M) : AW G cc own nL fr lo rt Φ pc ls (.inl i :: .inr x :: st) M := by
  subst hp
  subst hy
  intro A p l e R s m args below meth c cells slots Z H locs lsA hF hR hM hS hL
  have hlt : i.toNatClampNeg < n := Nat.not_le.mp fun q => hi (Or.inr q)
  have hx := hM _ ho
  rw [he] at hx
  exact W.aald (v := .ref (G.2.1 (f i.toNatClampNeg))) (ty := ty) hF.1 hF.2.1 (cell := vp_cell (G.2.2 kd) (n, .inr (.inr (.inr (.inr (rfR G n f)))))) hx ((hF.2.2.2.2.2.2.2.2.1.1.2 t0 _ ht).1 n (fun j => va_rf (rfR G n f j))) hty (fun q => by cases q) (by show ¬ (i < 0 ∨ (arrV _ _ _).slots.size ≤ _); rw [arrV_size]; exact hi) (by show (arrV _ _ _).slots[_]? = _; rw [arrV_read _ _ hlt, rfR, if_pos hlt]; rfl) rfl rfl hd (kk A p l e R s m args below meth c cells slots Z H locs lsA hF hR hM hS hL)
theorem a_gets {index : Nat} (hw : Cond.fieldLinkNest own index "ColdChain" "WARMING" "[I" "ColdChain" ∈ lw_tbl) (hd : decode cc pc = .ok (.getstatic index, 3)) (hp : pc + 3 = pc') (kk : AW G cc own nL fr lo rt Φ pc' ls (.inr (15, 0, 0, 0) :: st) M) : AW G cc own nL fr lo rt Φ pc ls st M := by
  subst hp
  intro A p l e R s m args below meth c cells slots Z H locs lsA hF hR hM hS hL
  exact va_getsN hF.1 hF.2.1 hF.2.2.2.2.2.2.2.2.2.1.1 hS hF.2.2.2.1 (hF.use hw rfl) (fun _ h => h) hd (kk A p l e R s m args below meth c cells slots Z H locs lsA hF hR hM hS hL)
theorem a_warm {i : Int32} (hi : vp_in i 3) (hd : decode cc pc = .ok (.iaload, 1)) (hp : pc + 1 = pc') (kk : AW G cc own nL fr lo rt Φ pc' ls (.inl (warmF i.toNatClampNeg) :: st) M) : AW G cc own nL fr lo rt Φ pc ls (.inl i :: .inr (15, 0, 0, 0) :: st) M := by
  subst hp
  intro A p l e R s m args below meth c cells slots Z H locs lsA hF hR hM hS hL
  obtain ⟨cell, h1, h2, h3, h4, h5, h6, h7⟩ := hF.2.2.2.2.2.2.2.2.2.1.2
  have hlt : i.toNatClampNeg < 3 := Nat.not_le.mp fun q => hi (Or.inr q)
  have hsz : H[G.2.1 (15, 0, 0, 0)]? = some cell := by rw [hS.2.1 _ (Array.getElem?_eq_some_iff.mp h1).1 h7]; exact h1
  exact W.iald (v := .int (warmF i.toNatClampNeg)) hF.1 hF.2.1 hsz h2 h3 (fun q => q.elim (fun z => hi (Or.inl z)) (fun z => absurd (Nat.lt_of_lt_of_le hlt h4) (Nat.not_lt.mpr z))) (h6 _ hlt) rfl rfl hd (kk A p l e R s m args below meth c cells slots Z H locs lsA hF hR hM hS hL)
theorem w_call {p : Program} {l : Launch} {e : Env} {R : Room} {s : State} {m : MethodId} {args : Array Value} {below : List Frame} {meth : Method} {c : Code} {H : Heap} {locs : List Loc} {cells slots : Nat} {Q : State → Prop} {lsA : Array Slot} {st0 rest : List Value} {Φ' : Option OV → Mm → Prop} {av : Array Value} {A : Nat → Prop}
    (hr : va_Run p l e R s m args below meth c H locs cells slots 0 0 (F0 m pc lsA st0) rest (QC G Φ' av) (AG G)) (hS : va_S A s.heap H locs) (hA : ∀ q, AG G q → A q)
    (kk : ∀ (v : Option OV) (M' : Mm) (H1 : Heap) (locs1 : List Loc), Φ' v M' → Mem G M' H1 → va_S A s.heap H1 locs1 → W p l e R s m args below meth c H1 locs1 cells slots Q (F0 m (pc + 3) lsA (v.toList.map (vlv G) ++ rest))) : W p l e R s m args below meth c H locs cells slots Q (F0 m pc lsA st0) := by
  intro T hT X
  obtain ⟨v, st₀, t, T', L, h0, X', hL, e1, e2, ⟨⟨ov, M', hv, hp, hb⟩, hz, hk⟩, stp⟩ := hr T hT X
  cases hv
  rw [h0] at hz hk
  have hS1 : va_S A s.heap T'.heap (locs ++ L) := ⟨Nat.le_trans hS.1 (by rw [e1]; exact hz), fun q h1 h2 => by rw [e1, hk q (Nat.lt_of_lt_of_le h1 hS.1) (fun z => h2 (hA q z))]; exact hS.2.1 q h1 h2, fun q hq => by
      rcases List.mem_append.mp hq with h | h
      · exact hS.2.2 q h
      · exact hA _ (hL q h)⟩
  obtain ⟨t2, a1, b1⟩ := kk ov M' T'.heap (locs ++ L) hp (by rw [e1]; exact hb) hS1 T' rfl X'
  refine ⟨t2, stp t2 ?_, b1⟩
  have e3 : (Option.map (vlv G) ov).toList = ov.toList.map (vlv G) := by cases ov <;> rfl
  rw [e3]
  exact a1
theorem w_rest {m : MethodId} {lsA : Array Slot} {rest0 : List Value} (G : Gl) {rest : List OV} (h : rest.length ≤ 8) : 2 * (F0 m pc lsA rest0).monitorRoom + ((rest.map (vlv G)).map fun v => v.category).sum ≤ 8 := by
  refine lv_room ?_
  have : ∀ r : List OV, ((r.map (vlv G)).map fun v => v.category).sum = r.length := by
    intro r
    induction r with
    | nil => rfl
    | cons a t ih => simp only [List.map_cons, List.sum_cons, vlv_cat, List.length_cons] at ih ⊢; omega
  rw [this]; exact h
/-- the words of a call of y by own's entry index -/
def CWd (own : String) (index : Nat) (y : MethodName) (cc' : ByteArray) (mL : Nat) (rt' : Option FieldType) (n : Nat) : Prop :=
  Cond.methodLink own index y ∈ lw_tbl ∧ Cond.code y cc' mL rt' ∈ lw_tbl ∧ Cond.initialized y.cls ∈ lw_tbl ∧ (y.cls ≠ "java/lang/invoke/MethodHandle" ∧ y.cls ≠ "java/lang/invoke/VarHandle") ∧ (parseMethodDescriptor y.desc).map (fun d => d.parameters.length) = some n
def CWdN (own : String) (index : Nat) (y : MethodName) (cc' : ByteArray) (mL : Nat) (rt' : Option FieldType) (n : Nat) : Prop :=
  Cond.methodLinkNest own index y "ColdChain" ∈ lw_tbl ∧ Cond.code y cc' mL rt' ∈ lw_tbl ∧ Cond.initialized y.cls ∈ lw_tbl ∧ (y.cls ≠ "java/lang/invoke/MethodHandle" ∧ y.cls ≠ "java/lang/invoke/VarHandle") ∧ (parseMethodDescriptor y.desc).map (fun d => d.parameters.length) = some n
theorem c_len {y : MethodName} {n : Nat} (h : (parseMethodDescriptor y.desc).map (fun d => d.parameters.length) = some n) : ∀ sig, parseMethodDescriptor y.desc = some sig → n = sig.parameters.length := by
  intro sig h2
  rw [h2] at h
  exact (Option.some.inj h).symm
theorem c_ws {s : State} {args : Array Value} {y : MethodName} {cc' : ByteArray} {mL : Nat} {rt' : Option FieldType} (h : (Cond.code y cc' mL rt').before args s = true) : ∀ w ∈ [Cond.code y cc' mL rt'], ∀ (a' : Array Value) (U : State), s.WarmedH U.vm → w.before a' U = true := by
  intro w hw a' U hW
  rw [List.mem_singleton.mp hw]
  exact word_at hW (Or.inl rfl) h
theorem c_pc {p : Program} {R : Room} {s : State} {m : MethodId} {c : Code} {cells slots : Nat} {A : Nat → Prop} {H : Heap} {locs : List Loc} {av : List OV} {M' : Mm} (hF : FrOK G A cc own nL fr lo p R s m c cells slots) (hM : Mem G M' H) (hS : va_S A s.heap H locs) : FrameBlind (PC G av M') ∧ ∀ U : State, U.heap = H → s.WarmedH U.vm → PC G av M' (av.map (vlv G)).toArray U :=
  ⟨PC.blind G av M', fun U hU hW => ⟨rfl, by rw [hU]; exact hM, hF.2.2.2.2.2.2.2.2.1.warm hW, by rw [hU]; exact ((hF.2.2.2.2.2.2.2.2.2.1.at hS).narrow hF.2.2.2.2.2.2.2.2.2.2.2).warm hW⟩⟩
theorem a_callS {y : MethodName} {cc' : ByteArray} {mL fr' lo' n index : Nat} {rt' : Option FieldType} {As rest st0 : List OV} {Φ' : Option OV → Mm → Prop} (hC : Ct y cc' mL rt' fr' lo' As M Φ') (hW : CWd own index y cc' mL rt' n) (hs : Cond.static y ∈ lw_tbl) (hn : As.length = n) (hfr : fr' + 1 ≤ fr) (hlo : 8 + (mL + 11) + lo' ≤ lo) (hrest : rest.length ≤ 8) (hst : st0 = As.reverse ++ rest) (hd : decode cc pc = .ok (.invokestatic index, 3)) (hp : pc + 3 = pc')
    (kk : ∀ v M', Φ' v M' → AW G cc own nL fr lo rt Φ pc' ls (v.toList ++ rest) M') : AW G cc own nL fr lo rt Φ pc ls st0 M := by
  subst hp
  subst hst
  intro A p l e R s m args below meth c cells slots Z H locs lsA hF hR hM hS hL
  have hcode := hF.use (args := args) hW.2.1 rfl
  have hcw : CallB R s args own index y cc' mL rt' [.code y cc' mL rt'] { frames := fr', cells := 0, slots := 0, locals := lo' } 0 0 n ∧ (Cond.static y).before args s = true :=
    ⟨⟨rfl, rfl, Nat.le_trans hfr hF.2.2.2.2.1, Nat.le_trans hlo hF.2.2.2.2.2.1, c_ws hcode, List.mem_cons_self, hcode, hF.use hW.2.2.1 rfl, hW.2.2.2.1, c_len hW.2.2.2.2, hF.use hW.1 rfl⟩, hF.use hs rfl⟩
  rw [List.map_append, List.map_reverse]
  refine w_call (va_runS (Ts := []) ⟨hF.1, hF.2.1, hF.2.2.1, hF.2.2.2.1, fun w h => absurd h List.not_mem_nil⟩ (hC G l hF.2.2.2.2.2.2.2.2.2.2.1) hcw (c_pc hF hM hS) rfl (by rw [List.length_map]; exact hn) hL.1 rfl (w_rest G hrest) hd ⟨by simpa using hF.2.2.2.2.2.2.1, by simpa using hF.2.2.2.2.2.2.2.1⟩) hS hF.2.2.2.2.2.2.2.2.2.2.2 (fun v M' H1 locs1 hΦ hM1 hS1 => ?_)
  rw [← List.map_append]
  exact kk v M' hΦ A p l e R s m args below meth c cells slots Z H1 locs1 lsA hF hR hM1 hS1 hL
theorem a_callSN {y : MethodName} {cc' : ByteArray} {mL fr' lo' n index : Nat} {rt' : Option FieldType} {As rest st0 : List OV} {Φ' : Option OV → Mm → Prop} (hC : Ct y cc' mL rt' fr' lo' As M Φ') (hW : CWdN own index y cc' mL rt' n) (hs : Cond.static y ∈ lw_tbl) (hn : As.length = n) (hfr : fr' + 1 ≤ fr) (hlo : 8 + (mL + 11) + lo' ≤ lo) (hrest : rest.length ≤ 8) (hst : st0 = As.reverse ++ rest) (hd : decode cc pc = .ok (.invokestatic index, 3)) (hp : pc + 3 = pc')
    (kk : ∀ v M', Φ' v M' → AW G cc own nL fr lo rt Φ pc' ls (v.toList ++ rest) M') : AW G cc own nL fr lo rt Φ pc ls st0 M := by
  subst hp
  subst hst
  intro A p l e R s m args below meth c cells slots Z H locs lsA hF hR hM hS hL
  have hcode := hF.use (args := args) hW.2.1 rfl
  have hcw : va_CN R s args own index y "ColdChain" cc' mL rt' [.code y cc' mL rt'] { frames := fr', cells := 0, slots := 0, locals := lo' } 0 0 n ∧ (Cond.static y).before args s = true ∧ True :=
    ⟨⟨⟨rfl, rfl, Nat.le_trans hfr hF.2.2.2.2.1, Nat.le_trans hlo hF.2.2.2.2.2.1, c_ws hcode, List.mem_cons_self⟩, hcode, hF.use hW.2.2.1 rfl, hW.2.2.2.1, c_len hW.2.2.2.2, hF.use hW.1 rfl⟩, hF.use hs rfl, trivial⟩
  rw [List.map_append, List.map_reverse]
  refine w_call (va_runSN (Ts := []) ⟨hF.1, hF.2.1, hF.2.2.1, hF.2.2.2.1, fun w h => absurd h List.not_mem_nil⟩ (hC G l hF.2.2.2.2.2.2.2.2.2.2.1) hcw (c_pc hF hM hS) rfl (by rw [List.length_map]; exact hn) hL.1 rfl (w_rest G hrest) hd ⟨by simpa using hF.2.2.2.2.2.2.1, by simpa using hF.2.2.2.2.2.2.2.1⟩) hS hF.2.2.2.2.2.2.2.2.2.2.2 (fun v M' H1 locs1 hΦ hM1 hS1 => ?_)
  rw [← List.map_append]
  exact kk v M' hΦ A p l e R s m args below meth c cells slots Z H1 locs1 lsA hF hR hM1 hS1 hL
theorem a_callV {y : MethodName} {cc' : ByteArray} {mL fr' lo' n index : Nat} {rt' : Option FieldType} {x : Obj} {As rest st0 : List OV} {Φ' : Option OV → Mm → Prop} {ci : Nat} {fs : List Value} {T : u_T} {N : Nat} (hC : Ct y cc' mL rt' fr' lo' (.inr x :: As) M Φ') (hW : CWd own index y cc' mL rt' n) (hs : Cond.instanceMethod y ∈ lw_tbl) (hse : Cond.selects y.cls y y ∈ lw_tbl) (ho : okO x = true) (he : ent G M x = .inr (ci, fs)) (hc : vwCl[ci]? = some (y.cls, T, N)) (hn : As.length = n) (hfr : fr' + 1 ≤ fr) (hlo : 8 + (mL + 11) + lo' ≤ lo) (hrest : rest.length ≤ 8) (hst : st0 = As.reverse ++ .inr x :: rest) (hd : decode cc pc = .ok (.invokevirtual index, 3)) (hp : pc + 3 = pc')
    (kk : ∀ v M', Φ' v M' → AW G cc own nL fr lo rt Φ pc' ls (v.toList ++ rest) M') : AW G cc own nL fr lo rt Φ pc ls st0 M := by
  subst hp
  subst hst
  intro A p l e R s m args below meth c cells slots Z H locs lsA hF hR hM hS hL
  have hcode := hF.use (args := args) hW.2.1 rfl
  have hcw : CallW R s args own y.cls index y cc' mL rt' [.code y cc' mL rt'] { frames := fr', cells := 0, slots := 0, locals := lo' } 0 0 n :=
    ⟨⟨rfl, rfl, Nat.le_trans hfr hF.2.2.2.2.1, Nat.le_trans hlo hF.2.2.2.2.2.1, c_ws hcode, List.mem_cons_self, hcode, hF.use hW.2.2.1 rfl, hW.2.2.2.1, c_len hW.2.2.2.2, hF.use hW.1 rfl⟩, hF.use hs rfl, hF.use hse rfl⟩
  have hx := hM x ho
  rw [he] at hx
  have hP : va_P G.1 vwCl [(G.2.1 x, .inr (ci, fs))] H := fun j q hj => by
    have hz : j < 1 := (List.getElem?_eq_some_iff.mp hj).1
    rw [show j = 0 by omega] at hj
    cases hj
    exact hx
  have hrc := va_recv (q0 := 0) (ws := [(G.2.1 x, .inr (ci, fs))]) hF.2.2.2.2.2.2.2.2.1.1 hP hc rfl
  have hpc := c_pc (av := .inr x :: As) hF hM hS
  rw [List.map_append, List.map_cons, List.map_reverse]
  refine w_call (va_runV (Ts := []) ⟨hF.1, hF.2.1, hF.2.2.1, hF.2.2.2.1, fun w h => absurd h List.not_mem_nil⟩ (hC G l hF.2.2.2.2.2.2.2.2.2.2.1) hcw ⟨hpc.1, hrc, hpc.2⟩ rfl (by rw [List.length_map]; exact hn) hL.1 rfl (w_rest G hrest) hd ⟨by simpa using hF.2.2.2.2.2.2.1, by simpa using hF.2.2.2.2.2.2.2.1⟩) hS hF.2.2.2.2.2.2.2.2.2.2.2 (fun v M' H1 locs1 hΦ hM1 hS1 => ?_)
  rw [← List.map_append]
  exact kk v M' hΦ A p l e R s m args below meth c cells slots Z H1 locs1 lsA hF hR hM1 hS1 hL
/-- an int answer r and ints M1 -/
abbrev RI (r : Int32) (M1 : Mm) : Option OV → Mm → Prop := fun v M' => v = some (.inl r) ∧ M' = M1
abbrev RB (b : Bool) (M1 : Mm) : Option OV → Mm → Prop := fun v M' => v = some (.inl (if b then 1 else 0)) ∧ M' = M1
abbrev RV (M1 : Mm) : Option OV → Mm → Prop := fun v M' => v = none ∧ M' = M1
abbrev RO (x : Obj) (M1 : Mm) : Option OV → Mm → Prop := fun v M' => v = some (.inr x) ∧ M' = M1
theorem n_01 {y : Int32} (h : y = 0 ∨ y = 1) : narrow .boolean (.int y) = .int y ∧ fits .boolean (.int y) = true := by rcases h with rfl | rfl <;> exact ⟨rfl, rfl⟩
theorem n_bool (b : Bool) : narrow .boolean (.int (if b then 1 else 0)) = .int (if b then 1 else 0) := by cases b <;> rfl
theorem gf_0_0 {index : Nat} (hw : Cond.fieldLink own index "ColdChain$History" "temperatures" "[[I" ∈ lw_tbl) (hd : decode cc pc = .ok (.getfield index, 3)) (hp : pc + 3 = pc') (kk : AW G cc own nL fr lo rt Φ pc' ls (.inr (14, 0, 0, 0) :: st) M) : AW G cc own nL fr lo rt Φ pc ls (.inr (0, 0, 0, 0) :: st) M := a_get (v := .inr (14, 0, 0, 0)) (C := RX0) (T := TX0) (N := 2) rfl rfl rfl inX0 0 (by decide) hw rfl hd hp kk
theorem gf_0_1 {index : Nat} (hw : Cond.fieldLink own index "ColdChain$History" "toldOnes" "[[I" ∈ lw_tbl) (hd : decode cc pc = .ok (.getfield index, 3)) (hp : pc + 3 = pc') (kk : AW G cc own nL fr lo rt Φ pc' ls (.inr (14, 1, 0, 0) :: st) M) : AW G cc own nL fr lo rt Φ pc ls (.inr (0, 0, 0, 0) :: st) M := a_get (v := .inr (14, 1, 0, 0)) (C := RX0) (T := TX0) (N := 2) rfl rfl rfl inX0 1 (by decide) hw rfl hd hp kk
theorem gf_1_0 {q p : Nat} {index : Nat} (hq : q < 9) (hv : p < 12) (hw : Cond.fieldLink own index "ColdChain$Pallet" "van" "I" ∈ lw_tbl) (hd : decode cc pc = .ok (.getfield index, 3)) (hp : pc + 3 = pc') (kk : AW G cc own nL fr lo rt Φ pc' ls (.inl (M q (63 + 10 * p)) :: st) M) : AW G cc own nL fr lo rt Φ pc ls (.inr (1, q, p, 0) :: st) M := a_get (v := .inl (M q (63 + 10 * p))) (C := RX1) (T := TX1) (N := 10) (by simp [okO, hq, hv]) rfl rfl inX1 0 (by decide) hw rfl hd hp kk
theorem pf_1_0 {q p : Nat} {index : Nat} {y : Int32} (hq : q < 9) (hv : p < 12) (hw : Cond.fieldLink own index "ColdChain$Pallet" "van" "I" ∈ lw_tbl) (hd : decode cc pc = .ok (.putfield index, 3)) (hp : pc + 3 = pc') (kk : AW G cc own nL fr lo rt Φ pc' ls st (wr M q (63 + 10 * p) y)) : AW G cc own nL fr lo rt Φ pc ls (.inl y :: .inr (1, q, p, 0) :: st) M := a_put (r := q) (i := (63 + 10 * p)) (C := RX1) (T := TX1) (N := 10) (ty := .int) (by simp [okO, hq, hv]) rfl rfl inX1 tyX1 tyX1_ok nmX1 0 (by decide) hw rfl (by decide +kernel) rfl rfl (by show 0 < 10; decide) (ow1 (j := 0) hq (by decide)) (by simp [ent, wr]) hd hp kk
theorem gf_1_1 {q p : Nat} {index : Nat} (hq : q < 9) (hv : p < 12) (hw : Cond.fieldLink own index "ColdChain$Pallet" "zone" "I" ∈ lw_tbl) (hd : decode cc pc = .ok (.getfield index, 3)) (hp : pc + 3 = pc') (kk : AW G cc own nL fr lo rt Φ pc' ls (.inl (M q (63 + 10 * p + 1)) :: st) M) : AW G cc own nL fr lo rt Φ pc ls (.inr (1, q, p, 0) :: st) M := a_get (v := .inl (M q (63 + 10 * p + 1))) (C := RX1) (T := TX1) (N := 10) (by simp [okO, hq, hv]) rfl rfl inX1 1 (by decide) hw rfl hd hp kk
theorem pf_1_1 {q p : Nat} {index : Nat} {y : Int32} (hq : q < 9) (hv : p < 12) (hw : Cond.fieldLink own index "ColdChain$Pallet" "zone" "I" ∈ lw_tbl) (hd : decode cc pc = .ok (.putfield index, 3)) (hp : pc + 3 = pc') (kk : AW G cc own nL fr lo rt Φ pc' ls st (wr M q (63 + 10 * p + 1) y)) : AW G cc own nL fr lo rt Φ pc ls (.inl y :: .inr (1, q, p, 0) :: st) M := a_put (r := q) (i := (63 + 10 * p + 1)) (C := RX1) (T := TX1) (N := 10) (ty := .int) (by simp [okO, hq, hv]) rfl rfl inX1 tyX1 tyX1_ok nmX1 1 (by decide) hw rfl (by decide +kernel) rfl rfl (by show 1 < 10; decide) (ow1 (j := 1) hq (by decide)) (by simp [ent, wr]) hd hp kk
theorem gf_1_2 {q p : Nat} {index : Nat} (hq : q < 9) (hv : p < 12) (hw : Cond.fieldLink own index "ColdChain$Pallet" "limit" "I" ∈ lw_tbl) (hd : decode cc pc = .ok (.getfield index, 3)) (hp : pc + 3 = pc') (kk : AW G cc own nL fr lo rt Φ pc' ls (.inl (M q (63 + 10 * p + 2)) :: st) M) : AW G cc own nL fr lo rt Φ pc ls (.inr (1, q, p, 0) :: st) M := a_get (v := .inl (M q (63 + 10 * p + 2))) (C := RX1) (T := TX1) (N := 10) (by simp [okO, hq, hv]) rfl rfl inX1 2 (by decide) hw rfl hd hp kk
theorem pf_1_2 {q p : Nat} {index : Nat} {y : Int32} (hq : q < 9) (hv : p < 12) (hw : Cond.fieldLink own index "ColdChain$Pallet" "limit" "I" ∈ lw_tbl) (hd : decode cc pc = .ok (.putfield index, 3)) (hp : pc + 3 = pc') (kk : AW G cc own nL fr lo rt Φ pc' ls st (wr M q (63 + 10 * p + 2) y)) : AW G cc own nL fr lo rt Φ pc ls (.inl y :: .inr (1, q, p, 0) :: st) M := a_put (r := q) (i := (63 + 10 * p + 2)) (C := RX1) (T := TX1) (N := 10) (ty := .int) (by simp [okO, hq, hv]) rfl rfl inX1 tyX1 tyX1_ok nmX1 2 (by decide) hw rfl (by decide +kernel) rfl rfl (by show 2 < 10; decide) (ow1 (j := 2) hq (by decide)) (by simp [ent, wr]) hd hp kk
theorem gf_1_3 {q p : Nat} {index : Nat} (hq : q < 9) (hv : p < 12) (hw : Cond.fieldLink own index "ColdChain$Pallet" "allowance" "I" ∈ lw_tbl) (hd : decode cc pc = .ok (.getfield index, 3)) (hp : pc + 3 = pc') (kk : AW G cc own nL fr lo rt Φ pc' ls (.inl (M q (63 + 10 * p + 3)) :: st) M) : AW G cc own nL fr lo rt Φ pc ls (.inr (1, q, p, 0) :: st) M := a_get (v := .inl (M q (63 + 10 * p + 3))) (C := RX1) (T := TX1) (N := 10) (by simp [okO, hq, hv]) rfl rfl inX1 3 (by decide) hw rfl hd hp kk
theorem pf_1_3 {q p : Nat} {index : Nat} {y : Int32} (hq : q < 9) (hv : p < 12) (hw : Cond.fieldLink own index "ColdChain$Pallet" "allowance" "I" ∈ lw_tbl) (hd : decode cc pc = .ok (.putfield index, 3)) (hp : pc + 3 = pc') (kk : AW G cc own nL fr lo rt Φ pc' ls st (wr M q (63 + 10 * p + 3) y)) : AW G cc own nL fr lo rt Φ pc ls (.inl y :: .inr (1, q, p, 0) :: st) M := a_put (r := q) (i := (63 + 10 * p + 3)) (C := RX1) (T := TX1) (N := 10) (ty := .int) (by simp [okO, hq, hv]) rfl rfl inX1 tyX1 tyX1_ok nmX1 3 (by decide) hw rfl (by decide +kernel) rfl rfl (by show 3 < 10; decide) (ow1 (j := 3) hq (by decide)) (by simp [ent, wr]) hd hp kk
theorem gf_1_4 {q p : Nat} {index : Nat} (hq : q < 9) (hv : p < 12) (hw : Cond.fieldLink own index "ColdChain$Pallet" "value" "I" ∈ lw_tbl) (hd : decode cc pc = .ok (.getfield index, 3)) (hp : pc + 3 = pc') (kk : AW G cc own nL fr lo rt Φ pc' ls (.inl (M q (63 + 10 * p + 4)) :: st) M) : AW G cc own nL fr lo rt Φ pc ls (.inr (1, q, p, 0) :: st) M := a_get (v := .inl (M q (63 + 10 * p + 4))) (C := RX1) (T := TX1) (N := 10) (by simp [okO, hq, hv]) rfl rfl inX1 4 (by decide) hw rfl hd hp kk
theorem pf_1_4 {q p : Nat} {index : Nat} {y : Int32} (hq : q < 9) (hv : p < 12) (hw : Cond.fieldLink own index "ColdChain$Pallet" "value" "I" ∈ lw_tbl) (hd : decode cc pc = .ok (.putfield index, 3)) (hp : pc + 3 = pc') (kk : AW G cc own nL fr lo rt Φ pc' ls st (wr M q (63 + 10 * p + 4) y)) : AW G cc own nL fr lo rt Φ pc ls (.inl y :: .inr (1, q, p, 0) :: st) M := a_put (r := q) (i := (63 + 10 * p + 4)) (C := RX1) (T := TX1) (N := 10) (ty := .int) (by simp [okO, hq, hv]) rfl rfl inX1 tyX1 tyX1_ok nmX1 4 (by decide) hw rfl (by decide +kernel) rfl rfl (by show 4 < 10; decide) (ow1 (j := 4) hq (by decide)) (by simp [ent, wr]) hd hp kk
theorem gf_1_5 {q p : Nat} {index : Nat} (hq : q < 9) (hv : p < 12) (hw : Cond.fieldLink own index "ColdChain$Pallet" "state" "I" ∈ lw_tbl) (hd : decode cc pc = .ok (.getfield index, 3)) (hp : pc + 3 = pc') (kk : AW G cc own nL fr lo rt Φ pc' ls (.inl (M q (63 + 10 * p + 5)) :: st) M) : AW G cc own nL fr lo rt Φ pc ls (.inr (1, q, p, 0) :: st) M := a_get (v := .inl (M q (63 + 10 * p + 5))) (C := RX1) (T := TX1) (N := 10) (by simp [okO, hq, hv]) rfl rfl inX1 5 (by decide) hw rfl hd hp kk
theorem pf_1_5 {q p : Nat} {index : Nat} {y : Int32} (hq : q < 9) (hv : p < 12) (hw : Cond.fieldLink own index "ColdChain$Pallet" "state" "I" ∈ lw_tbl) (hd : decode cc pc = .ok (.putfield index, 3)) (hp : pc + 3 = pc') (kk : AW G cc own nL fr lo rt Φ pc' ls st (wr M q (63 + 10 * p + 5) y)) : AW G cc own nL fr lo rt Φ pc ls (.inl y :: .inr (1, q, p, 0) :: st) M := a_put (r := q) (i := (63 + 10 * p + 5)) (C := RX1) (T := TX1) (N := 10) (ty := .int) (by simp [okO, hq, hv]) rfl rfl inX1 tyX1 tyX1_ok nmX1 5 (by decide) hw rfl (by decide +kernel) rfl rfl (by show 5 < 10; decide) (ow1 (j := 5) hq (by decide)) (by simp [ent, wr]) hd hp kk
theorem gf_1_6 {q p : Nat} {index : Nat} (hq : q < 9) (hv : p < 12) (hw : Cond.fieldLink own index "ColdChain$Pallet" "openMinutes" "I" ∈ lw_tbl) (hd : decode cc pc = .ok (.getfield index, 3)) (hp : pc + 3 = pc') (kk : AW G cc own nL fr lo rt Φ pc' ls (.inl (M q (63 + 10 * p + 6)) :: st) M) : AW G cc own nL fr lo rt Φ pc ls (.inr (1, q, p, 0) :: st) M := a_get (v := .inl (M q (63 + 10 * p + 6))) (C := RX1) (T := TX1) (N := 10) (by simp [okO, hq, hv]) rfl rfl inX1 6 (by decide) hw rfl hd hp kk
theorem pf_1_6 {q p : Nat} {index : Nat} {y : Int32} (hq : q < 9) (hv : p < 12) (hw : Cond.fieldLink own index "ColdChain$Pallet" "openMinutes" "I" ∈ lw_tbl) (hd : decode cc pc = .ok (.putfield index, 3)) (hp : pc + 3 = pc') (kk : AW G cc own nL fr lo rt Φ pc' ls st (wr M q (63 + 10 * p + 6) y)) : AW G cc own nL fr lo rt Φ pc ls (.inl y :: .inr (1, q, p, 0) :: st) M := a_put (r := q) (i := (63 + 10 * p + 6)) (C := RX1) (T := TX1) (N := 10) (ty := .int) (by simp [okO, hq, hv]) rfl rfl inX1 tyX1 tyX1_ok nmX1 6 (by decide) hw rfl (by decide +kernel) rfl rfl (by show 6 < 10; decide) (ow1 (j := 6) hq (by decide)) (by simp [ent, wr]) hd hp kk
theorem gf_1_7 {q p : Nat} {index : Nat} (hq : q < 9) (hv : p < 12) (hw : Cond.fieldLink own index "ColdChain$Pallet" "closedMinutes" "I" ∈ lw_tbl) (hd : decode cc pc = .ok (.getfield index, 3)) (hp : pc + 3 = pc') (kk : AW G cc own nL fr lo rt Φ pc' ls (.inl (M q (63 + 10 * p + 7)) :: st) M) : AW G cc own nL fr lo rt Φ pc ls (.inr (1, q, p, 0) :: st) M := a_get (v := .inl (M q (63 + 10 * p + 7))) (C := RX1) (T := TX1) (N := 10) (by simp [okO, hq, hv]) rfl rfl inX1 7 (by decide) hw rfl hd hp kk
theorem pf_1_7 {q p : Nat} {index : Nat} {y : Int32} (hq : q < 9) (hv : p < 12) (hw : Cond.fieldLink own index "ColdChain$Pallet" "closedMinutes" "I" ∈ lw_tbl) (hd : decode cc pc = .ok (.putfield index, 3)) (hp : pc + 3 = pc') (kk : AW G cc own nL fr lo rt Φ pc' ls st (wr M q (63 + 10 * p + 7) y)) : AW G cc own nL fr lo rt Φ pc ls (.inl y :: .inr (1, q, p, 0) :: st) M := a_put (r := q) (i := (63 + 10 * p + 7)) (C := RX1) (T := TX1) (N := 10) (ty := .int) (by simp [okO, hq, hv]) rfl rfl inX1 tyX1 tyX1_ok nmX1 7 (by decide) hw rfl (by decide +kernel) rfl rfl (by show 7 < 10; decide) (ow1 (j := 7) hq (by decide)) (by simp [ent, wr]) hd hp kk
theorem gf_1_8 {q p : Nat} {index : Nat} (hq : q < 9) (hv : p < 12) (hw : Cond.fieldLink own index "ColdChain$Pallet" "toldMinutes" "I" ∈ lw_tbl) (hd : decode cc pc = .ok (.getfield index, 3)) (hp : pc + 3 = pc') (kk : AW G cc own nL fr lo rt Φ pc' ls (.inl (M q (63 + 10 * p + 8)) :: st) M) : AW G cc own nL fr lo rt Φ pc ls (.inr (1, q, p, 0) :: st) M := a_get (v := .inl (M q (63 + 10 * p + 8))) (C := RX1) (T := TX1) (N := 10) (by simp [okO, hq, hv]) rfl rfl inX1 8 (by decide) hw rfl hd hp kk
theorem pf_1_8 {q p : Nat} {index : Nat} {y : Int32} (hq : q < 9) (hv : p < 12) (hw : Cond.fieldLink own index "ColdChain$Pallet" "toldMinutes" "I" ∈ lw_tbl) (hd : decode cc pc = .ok (.putfield index, 3)) (hp : pc + 3 = pc') (kk : AW G cc own nL fr lo rt Φ pc' ls st (wr M q (63 + 10 * p + 8) y)) : AW G cc own nL fr lo rt Φ pc ls (.inl y :: .inr (1, q, p, 0) :: st) M := a_put (r := q) (i := (63 + 10 * p + 8)) (C := RX1) (T := TX1) (N := 10) (ty := .int) (by simp [okO, hq, hv]) rfl rfl inX1 tyX1 tyX1_ok nmX1 8 (by decide) hw rfl (by decide +kernel) rfl rfl (by show 8 < 10; decide) (ow1 (j := 8) hq (by decide)) (by simp [ent, wr]) hd hp kk
theorem gf_1_9 {q p : Nat} {index : Nat} (hq : q < 9) (hv : p < 12) (hw : Cond.fieldLink own index "ColdChain$Pallet" "part" "I" ∈ lw_tbl) (hd : decode cc pc = .ok (.getfield index, 3)) (hp : pc + 3 = pc') (kk : AW G cc own nL fr lo rt Φ pc' ls (.inl (M q (63 + 10 * p + 9)) :: st) M) : AW G cc own nL fr lo rt Φ pc ls (.inr (1, q, p, 0) :: st) M := a_get (v := .inl (M q (63 + 10 * p + 9))) (C := RX1) (T := TX1) (N := 10) (by simp [okO, hq, hv]) rfl rfl inX1 9 (by decide) hw rfl hd hp kk
theorem pf_1_9 {q p : Nat} {index : Nat} {y : Int32} (hq : q < 9) (hv : p < 12) (hw : Cond.fieldLink own index "ColdChain$Pallet" "part" "I" ∈ lw_tbl) (hd : decode cc pc = .ok (.putfield index, 3)) (hp : pc + 3 = pc') (kk : AW G cc own nL fr lo rt Φ pc' ls st (wr M q (63 + 10 * p + 9) y)) : AW G cc own nL fr lo rt Φ pc ls (.inl y :: .inr (1, q, p, 0) :: st) M := a_put (r := q) (i := (63 + 10 * p + 9)) (C := RX1) (T := TX1) (N := 10) (ty := .int) (by simp [okO, hq, hv]) rfl rfl inX1 tyX1 tyX1_ok nmX1 9 (by decide) hw rfl (by decide +kernel) rfl rfl (by show 9 < 10; decide) (ow1 (j := 9) hq (by decide)) (by simp [ent, wr]) hd hp kk
theorem gf_2_0 {index : Nat} (hw : Cond.fieldLink own index "ColdChain$Script" "text" "[C" ∈ lw_tbl) (hd : decode cc pc = .ok (.getfield index, 3)) (hp : pc + 3 = pc') (kk : AW G cc own nL fr lo rt Φ pc' ls (.inr (8, 22, 80, 0) :: st) M) : AW G cc own nL fr lo rt Φ pc ls (.inr (2, 0, 0, 0) :: st) M := a_get (v := .inr (8, 22, 80, 0)) (C := RX2) (T := TX2) (N := 7) rfl rfl rfl inX2 0 (by decide) hw rfl hd hp kk
theorem gf_2_1 {index : Nat} (hw : Cond.fieldLink own index "ColdChain$Script" "length" "I" ∈ lw_tbl) (hd : decode cc pc = .ok (.getfield index, 3)) (hp : pc + 3 = pc') (kk : AW G cc own nL fr lo rt Φ pc' ls (.inl (M 21 0) :: st) M) : AW G cc own nL fr lo rt Φ pc ls (.inr (2, 0, 0, 0) :: st) M := a_get (v := .inl (M 21 0)) (C := RX2) (T := TX2) (N := 7) rfl rfl rfl inX2 1 (by decide) hw rfl hd hp kk
theorem pf_2_1 {index : Nat} {y : Int32} (hw : Cond.fieldLink own index "ColdChain$Script" "length" "I" ∈ lw_tbl) (hd : decode cc pc = .ok (.putfield index, 3)) (hp : pc + 3 = pc') (kk : AW G cc own nL fr lo rt Φ pc' ls st (wr M 21 0 y)) : AW G cc own nL fr lo rt Φ pc ls (.inl y :: .inr (2, 0, 0, 0) :: st) M := a_put (r := 21) (i := 0) (C := RX2) (T := TX2) (N := 7) (ty := .int) rfl rfl rfl inX2 tyX2 tyX2_ok nmX2 1 (by decide) hw rfl (by decide +kernel) rfl rfl (by show 1 < 7; decide) rfl (by simp [ent, wr]) hd hp kk
theorem gf_2_2 {index : Nat} (hw : Cond.fieldLink own index "ColdChain$Script" "at" "I" ∈ lw_tbl) (hd : decode cc pc = .ok (.getfield index, 3)) (hp : pc + 3 = pc') (kk : AW G cc own nL fr lo rt Φ pc' ls (.inl (M 21 1) :: st) M) : AW G cc own nL fr lo rt Φ pc ls (.inr (2, 0, 0, 0) :: st) M := a_get (v := .inl (M 21 1)) (C := RX2) (T := TX2) (N := 7) rfl rfl rfl inX2 2 (by decide) hw rfl hd hp kk
theorem pf_2_2 {index : Nat} {y : Int32} (hw : Cond.fieldLink own index "ColdChain$Script" "at" "I" ∈ lw_tbl) (hd : decode cc pc = .ok (.putfield index, 3)) (hp : pc + 3 = pc') (kk : AW G cc own nL fr lo rt Φ pc' ls st (wr M 21 1 y)) : AW G cc own nL fr lo rt Φ pc ls (.inl y :: .inr (2, 0, 0, 0) :: st) M := a_put (r := 21) (i := 1) (C := RX2) (T := TX2) (N := 7) (ty := .int) rfl rfl rfl inX2 tyX2 tyX2_ok nmX2 2 (by decide) hw rfl (by decide +kernel) rfl rfl (by show 2 < 7; decide) rfl (by simp [ent, wr]) hd hp kk
theorem gf_2_3 {index : Nat} (hw : Cond.fieldLink own index "ColdChain$Script" "letters" "[I" ∈ lw_tbl) (hd : decode cc pc = .ok (.getfield index, 3)) (hp : pc + 3 = pc') (kk : AW G cc own nL fr lo rt Φ pc' ls (.inr (9, 23, 80, 0) :: st) M) : AW G cc own nL fr lo rt Φ pc ls (.inr (2, 0, 0, 0) :: st) M := a_get (v := .inr (9, 23, 80, 0)) (C := RX2) (T := TX2) (N := 7) rfl rfl rfl inX2 3 (by decide) hw rfl hd hp kk
theorem gf_2_4 {index : Nat} (hw : Cond.fieldLink own index "ColdChain$Script" "firsts" "[I" ∈ lw_tbl) (hd : decode cc pc = .ok (.getfield index, 3)) (hp : pc + 3 = pc') (kk : AW G cc own nL fr lo rt Φ pc' ls (.inr (9, 24, 80, 0) :: st) M) : AW G cc own nL fr lo rt Φ pc ls (.inr (2, 0, 0, 0) :: st) M := a_get (v := .inr (9, 24, 80, 0)) (C := RX2) (T := TX2) (N := 7) rfl rfl rfl inX2 4 (by decide) hw rfl hd hp kk
theorem gf_2_5 {index : Nat} (hw : Cond.fieldLink own index "ColdChain$Script" "seconds" "[I" ∈ lw_tbl) (hd : decode cc pc = .ok (.getfield index, 3)) (hp : pc + 3 = pc') (kk : AW G cc own nL fr lo rt Φ pc' ls (.inr (9, 25, 80, 0) :: st) M) : AW G cc own nL fr lo rt Φ pc ls (.inr (2, 0, 0, 0) :: st) M := a_get (v := .inr (9, 25, 80, 0)) (C := RX2) (T := TX2) (N := 7) rfl rfl rfl inX2 5 (by decide) hw rfl hd hp kk
theorem gf_2_6 {index : Nat} (hw : Cond.fieldLink own index "ColdChain$Script" "commandCount" "I" ∈ lw_tbl) (hd : decode cc pc = .ok (.getfield index, 3)) (hp : pc + 3 = pc') (kk : AW G cc own nL fr lo rt Φ pc' ls (.inl (M 21 2) :: st) M) : AW G cc own nL fr lo rt Φ pc ls (.inr (2, 0, 0, 0) :: st) M := a_get (v := .inl (M 21 2)) (C := RX2) (T := TX2) (N := 7) rfl rfl rfl inX2 6 (by decide) hw rfl hd hp kk
theorem pf_2_6 {index : Nat} {y : Int32} (hw : Cond.fieldLink own index "ColdChain$Script" "commandCount" "I" ∈ lw_tbl) (hd : decode cc pc = .ok (.putfield index, 3)) (hp : pc + 3 = pc') (kk : AW G cc own nL fr lo rt Φ pc' ls st (wr M 21 2 y)) : AW G cc own nL fr lo rt Φ pc ls (.inl y :: .inr (2, 0, 0, 0) :: st) M := a_put (r := 21) (i := 2) (C := RX2) (T := TX2) (N := 7) (ty := .int) rfl rfl rfl inX2 tyX2 tyX2_ok nmX2 6 (by decide) hw rfl (by decide +kernel) rfl rfl (by show 6 < 7; decide) rfl (by simp [ent, wr]) hd hp kk
theorem gf_3_0 {q : Nat} {index : Nat} (hq : q < 9) (hw : Cond.fieldLink own index "ColdChain$State" "time" "I" ∈ lw_tbl) (hd : decode cc pc = .ok (.getfield index, 3)) (hp : pc + 3 = pc') (kk : AW G cc own nL fr lo rt Φ pc' ls (.inl (M q 2) :: st) M) : AW G cc own nL fr lo rt Φ pc ls (.inr (3, q, 0, 0) :: st) M := a_get (v := .inl (M q 2)) (C := RX3) (T := TX3) (N := 8) (by simp [okO, hq]) rfl rfl inX3 0 (by decide) hw rfl hd hp kk
theorem pf_3_0 {q : Nat} {index : Nat} {y : Int32} (hq : q < 9) (hw : Cond.fieldLink own index "ColdChain$State" "time" "I" ∈ lw_tbl) (hd : decode cc pc = .ok (.putfield index, 3)) (hp : pc + 3 = pc') (kk : AW G cc own nL fr lo rt Φ pc' ls st (wr M q 2 y)) : AW G cc own nL fr lo rt Φ pc ls (.inl y :: .inr (3, q, 0, 0) :: st) M := a_put (r := q) (i := 2) (C := RX3) (T := TX3) (N := 8) (ty := .int) (by simp [okO, hq]) rfl rfl inX3 tyX3 tyX3_ok nmX3 0 (by decide) hw rfl (by decide +kernel) rfl rfl (by show 0 < 8; decide) (ow3 (j := 2) hq (by decide)) (by simp [ent, wr]) hd hp kk
theorem gf_3_1 {q : Nat} {index : Nat} (hq : q < 9) (hw : Cond.fieldLink own index "ColdChain$State" "outside" "I" ∈ lw_tbl) (hd : decode cc pc = .ok (.getfield index, 3)) (hp : pc + 3 = pc') (kk : AW G cc own nL fr lo rt Φ pc' ls (.inl (M q 3) :: st) M) : AW G cc own nL fr lo rt Φ pc ls (.inr (3, q, 0, 0) :: st) M := a_get (v := .inl (M q 3)) (C := RX3) (T := TX3) (N := 8) (by simp [okO, hq]) rfl rfl inX3 1 (by decide) hw rfl hd hp kk
theorem pf_3_1 {q : Nat} {index : Nat} {y : Int32} (hq : q < 9) (hw : Cond.fieldLink own index "ColdChain$State" "outside" "I" ∈ lw_tbl) (hd : decode cc pc = .ok (.putfield index, 3)) (hp : pc + 3 = pc') (kk : AW G cc own nL fr lo rt Φ pc' ls st (wr M q 3 y)) : AW G cc own nL fr lo rt Φ pc ls (.inl y :: .inr (3, q, 0, 0) :: st) M := a_put (r := q) (i := 3) (C := RX3) (T := TX3) (N := 8) (ty := .int) (by simp [okO, hq]) rfl rfl inX3 tyX3 tyX3_ok nmX3 1 (by decide) hw rfl (by decide +kernel) rfl rfl (by show 1 < 8; decide) (ow3 (j := 3) hq (by decide)) (by simp [ent, wr]) hd hp kk
theorem gf_3_2 {q : Nat} {index : Nat} (hq : q < 9) (hw : Cond.fieldLink own index "ColdChain$State" "difference" "I" ∈ lw_tbl) (hd : decode cc pc = .ok (.getfield index, 3)) (hp : pc + 3 = pc') (kk : AW G cc own nL fr lo rt Φ pc' ls (.inl (M q 4) :: st) M) : AW G cc own nL fr lo rt Φ pc ls (.inr (3, q, 0, 0) :: st) M := a_get (v := .inl (M q 4)) (C := RX3) (T := TX3) (N := 8) (by simp [okO, hq]) rfl rfl inX3 2 (by decide) hw rfl hd hp kk
theorem pf_3_2 {q : Nat} {index : Nat} {y : Int32} (hq : q < 9) (hw : Cond.fieldLink own index "ColdChain$State" "difference" "I" ∈ lw_tbl) (hd : decode cc pc = .ok (.putfield index, 3)) (hp : pc + 3 = pc') (kk : AW G cc own nL fr lo rt Φ pc' ls st (wr M q 4 y)) : AW G cc own nL fr lo rt Φ pc ls (.inl y :: .inr (3, q, 0, 0) :: st) M := a_put (r := q) (i := 4) (C := RX3) (T := TX3) (N := 8) (ty := .int) (by simp [okO, hq]) rfl rfl inX3 tyX3 tyX3_ok nmX3 2 (by decide) hw rfl (by decide +kernel) rfl rfl (by show 2 < 8; decide) (ow3 (j := 4) hq (by decide)) (by simp [ent, wr]) hd hp kk
theorem gf_3_3 {q : Nat} {index : Nat} (hq : q < 9) (hw : Cond.fieldLink own index "ColdChain$State" "patience" "I" ∈ lw_tbl) (hd : decode cc pc = .ok (.getfield index, 3)) (hp : pc + 3 = pc') (kk : AW G cc own nL fr lo rt Φ pc' ls (.inl (M q 5) :: st) M) : AW G cc own nL fr lo rt Φ pc ls (.inr (3, q, 0, 0) :: st) M := a_get (v := .inl (M q 5)) (C := RX3) (T := TX3) (N := 8) (by simp [okO, hq]) rfl rfl inX3 3 (by decide) hw rfl hd hp kk
theorem pf_3_3 {q : Nat} {index : Nat} {y : Int32} (hq : q < 9) (hw : Cond.fieldLink own index "ColdChain$State" "patience" "I" ∈ lw_tbl) (hd : decode cc pc = .ok (.putfield index, 3)) (hp : pc + 3 = pc') (kk : AW G cc own nL fr lo rt Φ pc' ls st (wr M q 5 y)) : AW G cc own nL fr lo rt Φ pc ls (.inl y :: .inr (3, q, 0, 0) :: st) M := a_put (r := q) (i := 5) (C := RX3) (T := TX3) (N := 8) (ty := .int) (by simp [okO, hq]) rfl rfl inX3 tyX3 tyX3_ok nmX3 3 (by decide) hw rfl (by decide +kernel) rfl rfl (by show 3 < 8; decide) (ow3 (j := 5) hq (by decide)) (by simp [ent, wr]) hd hp kk
theorem gf_3_4 {q : Nat} {index : Nat} (hq : q < 9) (hw : Cond.fieldLink own index "ColdChain$State" "vanCount" "I" ∈ lw_tbl) (hd : decode cc pc = .ok (.getfield index, 3)) (hp : pc + 3 = pc') (kk : AW G cc own nL fr lo rt Φ pc' ls (.inl (M q 0) :: st) M) : AW G cc own nL fr lo rt Φ pc ls (.inr (3, q, 0, 0) :: st) M := a_get (v := .inl (M q 0)) (C := RX3) (T := TX3) (N := 8) (by simp [okO, hq]) rfl rfl inX3 4 (by decide) hw rfl hd hp kk
theorem pf_3_4 {q : Nat} {index : Nat} {y : Int32} (hq : q < 9) (hw : Cond.fieldLink own index "ColdChain$State" "vanCount" "I" ∈ lw_tbl) (hd : decode cc pc = .ok (.putfield index, 3)) (hp : pc + 3 = pc') (kk : AW G cc own nL fr lo rt Φ pc' ls st (wr M q 0 y)) : AW G cc own nL fr lo rt Φ pc ls (.inl y :: .inr (3, q, 0, 0) :: st) M := a_put (r := q) (i := 0) (C := RX3) (T := TX3) (N := 8) (ty := .int) (by simp [okO, hq]) rfl rfl inX3 tyX3 tyX3_ok nmX3 4 (by decide) hw rfl (by decide +kernel) rfl rfl (by show 4 < 8; decide) (ow3 (j := 0) hq (by decide)) (by simp [ent, wr]) hd hp kk
theorem gf_3_5 {q : Nat} {index : Nat} (hq : q < 9) (hw : Cond.fieldLink own index "ColdChain$State" "palletCount" "I" ∈ lw_tbl) (hd : decode cc pc = .ok (.getfield index, 3)) (hp : pc + 3 = pc') (kk : AW G cc own nL fr lo rt Φ pc' ls (.inl (M q 1) :: st) M) : AW G cc own nL fr lo rt Φ pc ls (.inr (3, q, 0, 0) :: st) M := a_get (v := .inl (M q 1)) (C := RX3) (T := TX3) (N := 8) (by simp [okO, hq]) rfl rfl inX3 5 (by decide) hw rfl hd hp kk
theorem pf_3_5 {q : Nat} {index : Nat} {y : Int32} (hq : q < 9) (hw : Cond.fieldLink own index "ColdChain$State" "palletCount" "I" ∈ lw_tbl) (hd : decode cc pc = .ok (.putfield index, 3)) (hp : pc + 3 = pc') (kk : AW G cc own nL fr lo rt Φ pc' ls st (wr M q 1 y)) : AW G cc own nL fr lo rt Φ pc ls (.inl y :: .inr (3, q, 0, 0) :: st) M := a_put (r := q) (i := 1) (C := RX3) (T := TX3) (N := 8) (ty := .int) (by simp [okO, hq]) rfl rfl inX3 tyX3 tyX3_ok nmX3 5 (by decide) hw rfl (by decide +kernel) rfl rfl (by show 5 < 8; decide) (ow3 (j := 1) hq (by decide)) (by simp [ent, wr]) hd hp kk
theorem gf_3_6 {q : Nat} {index : Nat} (hq : q < 9) (hw : Cond.fieldLink own index "ColdChain$State" "vans" "[LColdChain$Van;" ∈ lw_tbl) (hd : decode cc pc = .ok (.getfield index, 3)) (hp : pc + 3 = pc') (kk : AW G cc own nL fr lo rt Φ pc' ls (.inr (12, q, 0, 0) :: st) M) : AW G cc own nL fr lo rt Φ pc ls (.inr (3, q, 0, 0) :: st) M := a_get (v := .inr (12, q, 0, 0)) (C := RX3) (T := TX3) (N := 8) (by simp [okO, hq]) rfl rfl inX3 6 (by decide) hw rfl hd hp kk
theorem gf_3_7 {q : Nat} {index : Nat} (hq : q < 9) (hw : Cond.fieldLink own index "ColdChain$State" "pallets" "[LColdChain$Pallet;" ∈ lw_tbl) (hd : decode cc pc = .ok (.getfield index, 3)) (hp : pc + 3 = pc') (kk : AW G cc own nL fr lo rt Φ pc' ls (.inr (10, q, 0, 0) :: st) M) : AW G cc own nL fr lo rt Φ pc ls (.inr (3, q, 0, 0) :: st) M := a_get (v := .inr (10, q, 0, 0)) (C := RX3) (T := TX3) (N := 8) (by simp [okO, hq]) rfl rfl inX3 7 (by decide) hw rfl hd hp kk
theorem gf_4_0 {q v : Nat} {index : Nat} (hq : q < 9) (hv : v < 3) (hw : Cond.fieldLink own index "ColdChain$Van" "setPoint" "I" ∈ lw_tbl) (hd : decode cc pc = .ok (.getfield index, 3)) (hp : pc + 3 = pc') (kk : AW G cc own nL fr lo rt Φ pc' ls (.inl (M q (6 + 19 * v)) :: st) M) : AW G cc own nL fr lo rt Φ pc ls (.inr (4, q, v, 0) :: st) M := a_get (v := .inl (M q (6 + 19 * v))) (C := RX4) (T := TX4) (N := 5) (by simp [okO, hq, hv]) rfl rfl inX4 0 (by decide) hw rfl hd hp kk
theorem pf_4_0 {q v : Nat} {index : Nat} {y : Int32} (hq : q < 9) (hv : v < 3) (hw : Cond.fieldLink own index "ColdChain$Van" "setPoint" "I" ∈ lw_tbl) (hd : decode cc pc = .ok (.putfield index, 3)) (hp : pc + 3 = pc') (kk : AW G cc own nL fr lo rt Φ pc' ls st (wr M q (6 + 19 * v) y)) : AW G cc own nL fr lo rt Φ pc ls (.inl y :: .inr (4, q, v, 0) :: st) M := a_put (r := q) (i := (6 + 19 * v)) (C := RX4) (T := TX4) (N := 5) (ty := .int) (by simp [okO, hq, hv]) rfl rfl inX4 tyX4 tyX4_ok nmX4 0 (by decide) hw rfl (by decide +kernel) rfl rfl (by show 0 < 5; decide) (ow4 (j := 0) hq hv (by decide)) (by simp [ent, wr]) hd hp kk
theorem gf_4_1 {q v : Nat} {index : Nat} (hq : q < 9) (hv : v < 3) (hw : Cond.fieldLink own index "ColdChain$Van" "cooling" "I" ∈ lw_tbl) (hd : decode cc pc = .ok (.getfield index, 3)) (hp : pc + 3 = pc') (kk : AW G cc own nL fr lo rt Φ pc' ls (.inl (M q (6 + 19 * v + 1)) :: st) M) : AW G cc own nL fr lo rt Φ pc ls (.inr (4, q, v, 0) :: st) M := a_get (v := .inl (M q (6 + 19 * v + 1))) (C := RX4) (T := TX4) (N := 5) (by simp [okO, hq, hv]) rfl rfl inX4 1 (by decide) hw rfl hd hp kk
theorem pf_4_1 {q v : Nat} {index : Nat} {y : Int32} (hq : q < 9) (hv : v < 3) (hw : Cond.fieldLink own index "ColdChain$Van" "cooling" "I" ∈ lw_tbl) (hd : decode cc pc = .ok (.putfield index, 3)) (hp : pc + 3 = pc') (kk : AW G cc own nL fr lo rt Φ pc' ls st (wr M q (6 + 19 * v + 1) y)) : AW G cc own nL fr lo rt Φ pc ls (.inl y :: .inr (4, q, v, 0) :: st) M := a_put (r := q) (i := (6 + 19 * v + 1)) (C := RX4) (T := TX4) (N := 5) (ty := .int) (by simp [okO, hq, hv]) rfl rfl inX4 tyX4 tyX4_ok nmX4 1 (by decide) hw rfl (by decide +kernel) rfl rfl (by show 1 < 5; decide) (ow4 (j := 1) hq hv (by decide)) (by simp [ent, wr]) hd hp kk
theorem gf_4_2 {q v : Nat} {index : Nat} (hq : q < 9) (hv : v < 3) (hw : Cond.fieldLink own index "ColdChain$Van" "open" "Z" ∈ lw_tbl) (hd : decode cc pc = .ok (.getfield index, 3)) (hp : pc + 3 = pc') (kk : AW G cc own nL fr lo rt Φ pc' ls (.inl (M q (6 + 19 * v + 2)) :: st) M) : AW G cc own nL fr lo rt Φ pc ls (.inr (4, q, v, 0) :: st) M := a_get (v := .inl (M q (6 + 19 * v + 2))) (C := RX4) (T := TX4) (N := 5) (by simp [okO, hq, hv]) rfl rfl inX4 2 (by decide) hw rfl hd hp kk
theorem pf_4_2 {q v : Nat} {index : Nat} {y : Int32} (hq : q < 9) (hv : v < 3) (hn : y = 0 ∨ y = 1) (hw : Cond.fieldLink own index "ColdChain$Van" "open" "Z" ∈ lw_tbl) (hd : decode cc pc = .ok (.putfield index, 3)) (hp : pc + 3 = pc') (kk : AW G cc own nL fr lo rt Φ pc' ls st (wr M q (6 + 19 * v + 2) y)) : AW G cc own nL fr lo rt Φ pc ls (.inl y :: .inr (4, q, v, 0) :: st) M := a_put (r := q) (i := (6 + 19 * v + 2)) (C := RX4) (T := TX4) (N := 5) (ty := .boolean) (by simp [okO, hq, hv]) rfl rfl inX4 tyX4 tyX4_ok nmX4 2 (by decide) hw rfl (by decide +kernel) (n_01 hn).1 (n_01 hn).2 (by show 2 < 5; decide) (ow4 (j := 2) hq hv (by decide)) (by simp [ent, wr]) hd hp kk
theorem gf_4_3 {q v : Nat} {index : Nat} (hq : q < 9) (hv : v < 3) (hw : Cond.fieldLink own index "ColdChain$Van" "addedAt" "I" ∈ lw_tbl) (hd : decode cc pc = .ok (.getfield index, 3)) (hp : pc + 3 = pc') (kk : AW G cc own nL fr lo rt Φ pc' ls (.inl (M q (6 + 19 * v + 3)) :: st) M) : AW G cc own nL fr lo rt Φ pc ls (.inr (4, q, v, 0) :: st) M := a_get (v := .inl (M q (6 + 19 * v + 3))) (C := RX4) (T := TX4) (N := 5) (by simp [okO, hq, hv]) rfl rfl inX4 3 (by decide) hw rfl hd hp kk
theorem pf_4_3 {q v : Nat} {index : Nat} {y : Int32} (hq : q < 9) (hv : v < 3) (hw : Cond.fieldLink own index "ColdChain$Van" "addedAt" "I" ∈ lw_tbl) (hd : decode cc pc = .ok (.putfield index, 3)) (hp : pc + 3 = pc') (kk : AW G cc own nL fr lo rt Φ pc' ls st (wr M q (6 + 19 * v + 3) y)) : AW G cc own nL fr lo rt Φ pc ls (.inl y :: .inr (4, q, v, 0) :: st) M := a_put (r := q) (i := (6 + 19 * v + 3)) (C := RX4) (T := TX4) (N := 5) (ty := .int) (by simp [okO, hq, hv]) rfl rfl inX4 tyX4 tyX4_ok nmX4 3 (by decide) hw rfl (by decide +kernel) rfl rfl (by show 3 < 5; decide) (ow4 (j := 3) hq hv (by decide)) (by simp [ent, wr]) hd hp kk
theorem gf_4_4 {q v : Nat} {index : Nat} (hq : q < 9) (hv : v < 3) (hw : Cond.fieldLink own index "ColdChain$Van" "zones" "[LColdChain$Zone;" ∈ lw_tbl) (hd : decode cc pc = .ok (.getfield index, 3)) (hp : pc + 3 = pc') (kk : AW G cc own nL fr lo rt Φ pc' ls (.inr (13, q, v, 0) :: st) M) : AW G cc own nL fr lo rt Φ pc ls (.inr (4, q, v, 0) :: st) M := a_get (v := .inr (13, q, v, 0)) (C := RX4) (T := TX4) (N := 5) (by simp [okO, hq, hv]) rfl rfl inX4 4 (by decide) hw rfl hd hp kk
theorem gf_5_0 {q v z : Nat} {index : Nat} (hq : q < 9) (hv : v < 3) (hz : z < 3) (hw : Cond.fieldLink own index "ColdChain$Zone" "temperature" "I" ∈ lw_tbl) (hd : decode cc pc = .ok (.getfield index, 3)) (hp : pc + 3 = pc') (kk : AW G cc own nL fr lo rt Φ pc' ls (.inl (M q (10 + 19 * v + 5 * z)) :: st) M) : AW G cc own nL fr lo rt Φ pc ls (.inr (5, q, v, z) :: st) M := a_get (v := .inl (M q (10 + 19 * v + 5 * z))) (C := RX5) (T := TX5) (N := 5) (by simp [okO, hq, hv, hz]) rfl rfl inX5 0 (by decide) hw rfl hd hp kk
theorem pf_5_0 {q v z : Nat} {index : Nat} {y : Int32} (hq : q < 9) (hv : v < 3) (hz : z < 3) (hw : Cond.fieldLink own index "ColdChain$Zone" "temperature" "I" ∈ lw_tbl) (hd : decode cc pc = .ok (.putfield index, 3)) (hp : pc + 3 = pc') (kk : AW G cc own nL fr lo rt Φ pc' ls st (wr M q (10 + 19 * v + 5 * z) y)) : AW G cc own nL fr lo rt Φ pc ls (.inl y :: .inr (5, q, v, z) :: st) M := a_put (r := q) (i := (10 + 19 * v + 5 * z)) (C := RX5) (T := TX5) (N := 5) (ty := .int) (by simp [okO, hq, hv, hz]) rfl rfl inX5 tyX5 tyX5_ok nmX5 0 (by decide) hw rfl (by decide +kernel) rfl rfl (by show 0 < 5; decide) (ow5 (j := 0) hq hv hz (by decide)) (by simp [ent, wr]) hd hp kk
theorem gf_5_1 {q v z : Nat} {index : Nat} (hq : q < 9) (hv : v < 3) (hz : z < 3) (hw : Cond.fieldLink own index "ColdChain$Zone" "mode" "I" ∈ lw_tbl) (hd : decode cc pc = .ok (.getfield index, 3)) (hp : pc + 3 = pc') (kk : AW G cc own nL fr lo rt Φ pc' ls (.inl (M q (10 + 19 * v + 5 * z + 1)) :: st) M) : AW G cc own nL fr lo rt Φ pc ls (.inr (5, q, v, z) :: st) M := a_get (v := .inl (M q (10 + 19 * v + 5 * z + 1))) (C := RX5) (T := TX5) (N := 5) (by simp [okO, hq, hv, hz]) rfl rfl inX5 1 (by decide) hw rfl hd hp kk
theorem pf_5_1 {q v z : Nat} {index : Nat} {y : Int32} (hq : q < 9) (hv : v < 3) (hz : z < 3) (hw : Cond.fieldLink own index "ColdChain$Zone" "mode" "I" ∈ lw_tbl) (hd : decode cc pc = .ok (.putfield index, 3)) (hp : pc + 3 = pc') (kk : AW G cc own nL fr lo rt Φ pc' ls st (wr M q (10 + 19 * v + 5 * z + 1) y)) : AW G cc own nL fr lo rt Φ pc ls (.inl y :: .inr (5, q, v, z) :: st) M := a_put (r := q) (i := (10 + 19 * v + 5 * z + 1)) (C := RX5) (T := TX5) (N := 5) (ty := .int) (by simp [okO, hq, hv, hz]) rfl rfl inX5 tyX5 tyX5_ok nmX5 1 (by decide) hw rfl (by decide +kernel) rfl rfl (by show 1 < 5; decide) (ow5 (j := 1) hq hv hz (by decide)) (by simp [ent, wr]) hd hp kk
theorem gf_5_2 {q v z : Nat} {index : Nat} (hq : q < 9) (hv : v < 3) (hz : z < 3) (hw : Cond.fieldLink own index "ColdChain$Zone" "value" "I" ∈ lw_tbl) (hd : decode cc pc = .ok (.getfield index, 3)) (hp : pc + 3 = pc') (kk : AW G cc own nL fr lo rt Φ pc' ls (.inl (M q (10 + 19 * v + 5 * z + 2)) :: st) M) : AW G cc own nL fr lo rt Φ pc ls (.inr (5, q, v, z) :: st) M := a_get (v := .inl (M q (10 + 19 * v + 5 * z + 2))) (C := RX5) (T := TX5) (N := 5) (by simp [okO, hq, hv, hz]) rfl rfl inX5 2 (by decide) hw rfl hd hp kk
theorem pf_5_2 {q v z : Nat} {index : Nat} {y : Int32} (hq : q < 9) (hv : v < 3) (hz : z < 3) (hw : Cond.fieldLink own index "ColdChain$Zone" "value" "I" ∈ lw_tbl) (hd : decode cc pc = .ok (.putfield index, 3)) (hp : pc + 3 = pc') (kk : AW G cc own nL fr lo rt Φ pc' ls st (wr M q (10 + 19 * v + 5 * z + 2) y)) : AW G cc own nL fr lo rt Φ pc ls (.inl y :: .inr (5, q, v, z) :: st) M := a_put (r := q) (i := (10 + 19 * v + 5 * z + 2)) (C := RX5) (T := TX5) (N := 5) (ty := .int) (by simp [okO, hq, hv, hz]) rfl rfl inX5 tyX5 tyX5_ok nmX5 2 (by decide) hw rfl (by decide +kernel) rfl rfl (by show 2 < 5; decide) (ow5 (j := 2) hq hv hz (by decide)) (by simp [ent, wr]) hd hp kk
theorem gf_5_3 {q v z : Nat} {index : Nat} (hq : q < 9) (hv : v < 3) (hz : z < 3) (hw : Cond.fieldLink own index "ColdChain$Zone" "found" "Z" ∈ lw_tbl) (hd : decode cc pc = .ok (.getfield index, 3)) (hp : pc + 3 = pc') (kk : AW G cc own nL fr lo rt Φ pc' ls (.inl (M q (10 + 19 * v + 5 * z + 3)) :: st) M) : AW G cc own nL fr lo rt Φ pc ls (.inr (5, q, v, z) :: st) M := a_get (v := .inl (M q (10 + 19 * v + 5 * z + 3))) (C := RX5) (T := TX5) (N := 5) (by simp [okO, hq, hv, hz]) rfl rfl inX5 3 (by decide) hw rfl hd hp kk
theorem pf_5_3 {q v z : Nat} {index : Nat} {y : Int32} (hq : q < 9) (hv : v < 3) (hz : z < 3) (hn : y = 0 ∨ y = 1) (hw : Cond.fieldLink own index "ColdChain$Zone" "found" "Z" ∈ lw_tbl) (hd : decode cc pc = .ok (.putfield index, 3)) (hp : pc + 3 = pc') (kk : AW G cc own nL fr lo rt Φ pc' ls st (wr M q (10 + 19 * v + 5 * z + 3) y)) : AW G cc own nL fr lo rt Φ pc ls (.inl y :: .inr (5, q, v, z) :: st) M := a_put (r := q) (i := (10 + 19 * v + 5 * z + 3)) (C := RX5) (T := TX5) (N := 5) (ty := .boolean) (by simp [okO, hq, hv, hz]) rfl rfl inX5 tyX5 tyX5_ok nmX5 3 (by decide) hw rfl (by decide +kernel) (n_01 hn).1 (n_01 hn).2 (by show 3 < 5; decide) (ow5 (j := 3) hq hv hz (by decide)) (by simp [ent, wr]) hd hp kk
theorem gf_5_4 {q v z : Nat} {index : Nat} (hq : q < 9) (hv : v < 3) (hz : z < 3) (hw : Cond.fieldLink own index "ColdChain$Zone" "oddMinutes" "I" ∈ lw_tbl) (hd : decode cc pc = .ok (.getfield index, 3)) (hp : pc + 3 = pc') (kk : AW G cc own nL fr lo rt Φ pc' ls (.inl (M q (10 + 19 * v + 5 * z + 4)) :: st) M) : AW G cc own nL fr lo rt Φ pc ls (.inr (5, q, v, z) :: st) M := a_get (v := .inl (M q (10 + 19 * v + 5 * z + 4))) (C := RX5) (T := TX5) (N := 5) (by simp [okO, hq, hv, hz]) rfl rfl inX5 4 (by decide) hw rfl hd hp kk
theorem pf_5_4 {q v z : Nat} {index : Nat} {y : Int32} (hq : q < 9) (hv : v < 3) (hz : z < 3) (hw : Cond.fieldLink own index "ColdChain$Zone" "oddMinutes" "I" ∈ lw_tbl) (hd : decode cc pc = .ok (.putfield index, 3)) (hp : pc + 3 = pc') (kk : AW G cc own nL fr lo rt Φ pc' ls st (wr M q (10 + 19 * v + 5 * z + 4) y)) : AW G cc own nL fr lo rt Φ pc ls (.inl y :: .inr (5, q, v, z) :: st) M := a_put (r := q) (i := (10 + 19 * v + 5 * z + 4)) (C := RX5) (T := TX5) (N := 5) (ty := .int) (by simp [okO, hq, hv, hz]) rfl rfl inX5 tyX5 tyX5_ok nmX5 4 (by decide) hw rfl (by decide +kernel) rfl rfl (by show 4 < 5; decide) (ow5 (j := 4) hq hv hz (by decide)) (by simp [ent, wr]) hd hp kk
theorem gf_6_0 {index : Nat} (hw : Cond.fieldLink own index "ColdChain" "now" "LColdChain$State;" ∈ lw_tbl) (hd : decode cc pc = .ok (.getfield index, 3)) (hp : pc + 3 = pc') (kk : AW G cc own nL fr lo rt Φ pc' ls (.inr (3, 0, 0, 0) :: st) M) : AW G cc own nL fr lo rt Φ pc ls (.inr (6, 0, 0, 0) :: st) M := a_get (v := .inr (3, 0, 0, 0)) (C := RX6) (T := TX6) (N := 7) rfl rfl rfl inX6 0 (by decide) hw rfl hd hp kk
theorem gf_6_1 {index : Nat} (hw : Cond.fieldLink own index "ColdChain" "trial" "LColdChain$State;" ∈ lw_tbl) (hd : decode cc pc = .ok (.getfield index, 3)) (hp : pc + 3 = pc') (kk : AW G cc own nL fr lo rt Φ pc' ls (.inr (3, 1, 0, 0) :: st) M) : AW G cc own nL fr lo rt Φ pc ls (.inr (6, 0, 0, 0) :: st) M := a_get (v := .inr (3, 1, 0, 0)) (C := RX6) (T := TX6) (N := 7) rfl rfl rfl inX6 1 (by decide) hw rfl hd hp kk
theorem gf_6_2 {index : Nat} (hw : Cond.fieldLink own index "ColdChain" "saved" "[LColdChain$State;" ∈ lw_tbl) (hd : decode cc pc = .ok (.getfield index, 3)) (hp : pc + 3 = pc') (kk : AW G cc own nL fr lo rt Φ pc' ls (.inr (11, 0, 0, 0) :: st) M) : AW G cc own nL fr lo rt Φ pc ls (.inr (6, 0, 0, 0) :: st) M := a_get (v := .inr (11, 0, 0, 0)) (C := RX6) (T := TX6) (N := 7) rfl rfl rfl inX6 2 (by decide) hw rfl hd hp kk
theorem gf_6_3 {index : Nat} (hw : Cond.fieldLink own index "ColdChain" "free" "I" ∈ lw_tbl) (hd : decode cc pc = .ok (.getfield index, 3)) (hp : pc + 3 = pc') (kk : AW G cc own nL fr lo rt Φ pc' ls (.inl (M 20 0) :: st) M) : AW G cc own nL fr lo rt Φ pc ls (.inr (6, 0, 0, 0) :: st) M := a_get (v := .inl (M 20 0)) (C := RX6) (T := TX6) (N := 7) rfl rfl rfl inX6 3 (by decide) hw rfl hd hp kk
theorem pf_6_3 {index : Nat} {y : Int32} (hw : Cond.fieldLink own index "ColdChain" "free" "I" ∈ lw_tbl) (hd : decode cc pc = .ok (.putfield index, 3)) (hp : pc + 3 = pc') (kk : AW G cc own nL fr lo rt Φ pc' ls st (wr M 20 0 y)) : AW G cc own nL fr lo rt Φ pc ls (.inl y :: .inr (6, 0, 0, 0) :: st) M := a_put (r := 20) (i := 0) (C := RX6) (T := TX6) (N := 7) (ty := .int) rfl rfl rfl inX6 tyX6 tyX6_ok nmX6 3 (by decide) hw rfl (by decide +kernel) rfl rfl (by show 3 < 7; decide) rfl (by simp [ent, wr]) hd hp kk
theorem gf_6_4 {index : Nat} (hw : Cond.fieldLink own index "ColdChain" "savedCount" "I" ∈ lw_tbl) (hd : decode cc pc = .ok (.getfield index, 3)) (hp : pc + 3 = pc') (kk : AW G cc own nL fr lo rt Φ pc' ls (.inl (M 20 1) :: st) M) : AW G cc own nL fr lo rt Φ pc ls (.inr (6, 0, 0, 0) :: st) M := a_get (v := .inl (M 20 1)) (C := RX6) (T := TX6) (N := 7) rfl rfl rfl inX6 4 (by decide) hw rfl hd hp kk
theorem pf_6_4 {index : Nat} {y : Int32} (hw : Cond.fieldLink own index "ColdChain" "savedCount" "I" ∈ lw_tbl) (hd : decode cc pc = .ok (.putfield index, 3)) (hp : pc + 3 = pc') (kk : AW G cc own nL fr lo rt Φ pc' ls st (wr M 20 1 y)) : AW G cc own nL fr lo rt Φ pc ls (.inl y :: .inr (6, 0, 0, 0) :: st) M := a_put (r := 20) (i := 1) (C := RX6) (T := TX6) (N := 7) (ty := .int) rfl rfl rfl inX6 tyX6 tyX6_ok nmX6 4 (by decide) hw rfl (by decide +kernel) rfl rfl (by show 4 < 7; decide) rfl (by simp [ent, wr]) hd hp kk
theorem gf_6_5 {index : Nat} (hw : Cond.fieldLink own index "ColdChain" "history" "LColdChain$History;" ∈ lw_tbl) (hd : decode cc pc = .ok (.getfield index, 3)) (hp : pc + 3 = pc') (kk : AW G cc own nL fr lo rt Φ pc' ls (.inr (0, 0, 0, 0) :: st) M) : AW G cc own nL fr lo rt Φ pc ls (.inr (6, 0, 0, 0) :: st) M := a_get (v := .inr (0, 0, 0, 0)) (C := RX6) (T := TX6) (N := 7) rfl rfl rfl inX6 5 (by decide) hw rfl hd hp kk
theorem gf_6_6 {index : Nat} (hw : Cond.fieldLink own index "ColdChain" "script" "LColdChain$Script;" ∈ lw_tbl) (hd : decode cc pc = .ok (.getfield index, 3)) (hp : pc + 3 = pc') (kk : AW G cc own nL fr lo rt Φ pc' ls (.inr (2, 0, 0, 0) :: st) M) : AW G cc own nL fr lo rt Φ pc ls (.inr (6, 0, 0, 0) :: st) M := a_get (v := .inr (2, 0, 0, 0)) (C := RX6) (T := TX6) (N := 7) rfl rfl rfl inX6 6 (by decide) hw rfl hd hp kk
theorem gf_7_0 {index : Nat} (hw : Cond.fieldLink own index "ColdChainModel" "s" "[I" ∈ lw_tbl) (hd : decode cc pc = .ok (.getfield index, 3)) (hp : pc + 3 = pc') (kk : AW G cc own nL fr lo rt Φ pc' ls (.inr (9, 50, 183, 0) :: st) M) : AW G cc own nL fr lo rt Φ pc ls (.inr (7, 0, 0, 0) :: st) M := a_get (v := .inr (9, 50, 183, 0)) (C := RX7) (T := TX7) (N := 12) rfl rfl rfl inX7 0 (by decide) hw rfl hd hp kk
theorem gf_7_1 {index : Nat} (hw : Cond.fieldLink own index "ColdChainModel" "past" "[I" ∈ lw_tbl) (hd : decode cc pc = .ok (.getfield index, 3)) (hp : pc + 3 = pc') (kk : AW G cc own nL fr lo rt Φ pc' ls (.inr (9, 51, 1098, 0) :: st) M) : AW G cc own nL fr lo rt Φ pc ls (.inr (7, 0, 0, 0) :: st) M := a_get (v := .inr (9, 51, 1098, 0)) (C := RX7) (T := TX7) (N := 12) rfl rfl rfl inX7 1 (by decide) hw rfl hd hp kk
theorem gf_7_2 {index : Nat} (hw : Cond.fieldLink own index "ColdChainModel" "aside" "[I" ∈ lw_tbl) (hd : decode cc pc = .ok (.getfield index, 3)) (hp : pc + 3 = pc') (kk : AW G cc own nL fr lo rt Φ pc' ls (.inr (9, 52, 183, 0) :: st) M) : AW G cc own nL fr lo rt Φ pc ls (.inr (7, 0, 0, 0) :: st) M := a_get (v := .inr (9, 52, 183, 0)) (C := RX7) (T := TX7) (N := 12) rfl rfl rfl inX7 2 (by decide) hw rfl hd hp kk
theorem gf_7_3 {index : Nat} (hw : Cond.fieldLink own index "ColdChainModel" "kept" "[I" ∈ lw_tbl) (hd : decode cc pc = .ok (.getfield index, 3)) (hp : pc + 3 = pc') (kk : AW G cc own nL fr lo rt Φ pc' ls (.inr (9, 53, 183, 0) :: st) M) : AW G cc own nL fr lo rt Φ pc ls (.inr (7, 0, 0, 0) :: st) M := a_get (v := .inr (9, 53, 183, 0)) (C := RX7) (T := TX7) (N := 12) rfl rfl rfl inX7 3 (by decide) hw rfl hd hp kk
theorem gf_7_4 {index : Nat} (hw : Cond.fieldLink own index "ColdChainModel" "pasts" "I" ∈ lw_tbl) (hd : decode cc pc = .ok (.getfield index, 3)) (hp : pc + 3 = pc') (kk : AW G cc own nL fr lo rt Φ pc' ls (.inl (M 60 0) :: st) M) : AW G cc own nL fr lo rt Φ pc ls (.inr (7, 0, 0, 0) :: st) M := a_get (v := .inl (M 60 0)) (C := RX7) (T := TX7) (N := 12) rfl rfl rfl inX7 4 (by decide) hw rfl hd hp kk
theorem pf_7_4 {index : Nat} {y : Int32} (hw : Cond.fieldLink own index "ColdChainModel" "pasts" "I" ∈ lw_tbl) (hd : decode cc pc = .ok (.putfield index, 3)) (hp : pc + 3 = pc') (kk : AW G cc own nL fr lo rt Φ pc' ls st (wr M 60 0 y)) : AW G cc own nL fr lo rt Φ pc ls (.inl y :: .inr (7, 0, 0, 0) :: st) M := a_put (r := 60) (i := 0) (C := RX7) (T := TX7) (N := 12) (ty := .int) rfl rfl rfl inX7 tyX7 tyX7_ok nmX7 4 (by decide) hw rfl (by decide +kernel) rfl rfl (by show 4 < 12; decide) rfl (by simp [ent, wr]) hd hp kk
theorem gf_7_5 {index : Nat} (hw : Cond.fieldLink own index "ColdChainModel" "log" "[I" ∈ lw_tbl) (hd : decode cc pc = .ok (.getfield index, 3)) (hp : pc + 3 = pc') (kk : AW G cc own nL fr lo rt Φ pc' ls (.inr (9, 54, 10800, 0) :: st) M) : AW G cc own nL fr lo rt Φ pc ls (.inr (7, 0, 0, 0) :: st) M := a_get (v := .inr (9, 54, 10800, 0)) (C := RX7) (T := TX7) (N := 12) rfl rfl rfl inX7 5 (by decide) hw rfl hd hp kk
theorem gf_7_6 {index : Nat} (hw : Cond.fieldLink own index "ColdChainModel" "isReal" "Z" ∈ lw_tbl) (hd : decode cc pc = .ok (.getfield index, 3)) (hp : pc + 3 = pc') (kk : AW G cc own nL fr lo rt Φ pc' ls (.inl (M 60 1) :: st) M) : AW G cc own nL fr lo rt Φ pc ls (.inr (7, 0, 0, 0) :: st) M := a_get (v := .inl (M 60 1)) (C := RX7) (T := TX7) (N := 12) rfl rfl rfl inX7 6 (by decide) hw rfl hd hp kk
theorem pf_7_6 {index : Nat} {y : Int32} (hn : y = 0 ∨ y = 1) (hw : Cond.fieldLink own index "ColdChainModel" "isReal" "Z" ∈ lw_tbl) (hd : decode cc pc = .ok (.putfield index, 3)) (hp : pc + 3 = pc') (kk : AW G cc own nL fr lo rt Φ pc' ls st (wr M 60 1 y)) : AW G cc own nL fr lo rt Φ pc ls (.inl y :: .inr (7, 0, 0, 0) :: st) M := a_put (r := 60) (i := 1) (C := RX7) (T := TX7) (N := 12) (ty := .boolean) rfl rfl rfl inX7 tyX7 tyX7_ok nmX7 6 (by decide) hw rfl (by decide +kernel) (n_01 hn).1 (n_01 hn).2 (by show 6 < 12; decide) rfl (by simp [ent, wr]) hd hp kk
theorem gf_7_7 {index : Nat} (hw : Cond.fieldLink own index "ColdChainModel" "text" "[I" ∈ lw_tbl) (hd : decode cc pc = .ok (.getfield index, 3)) (hp : pc + 3 = pc') (kk : AW G cc own nL fr lo rt Φ pc' ls (.inr (9, 55, 80, 0) :: st) M) : AW G cc own nL fr lo rt Φ pc ls (.inr (7, 0, 0, 0) :: st) M := a_get (v := .inr (9, 55, 80, 0)) (C := RX7) (T := TX7) (N := 12) rfl rfl rfl inX7 7 (by decide) hw rfl hd hp kk
theorem gf_7_8 {index : Nat} (hw : Cond.fieldLink own index "ColdChainModel" "typed" "I" ∈ lw_tbl) (hd : decode cc pc = .ok (.getfield index, 3)) (hp : pc + 3 = pc') (kk : AW G cc own nL fr lo rt Φ pc' ls (.inl (M 60 2) :: st) M) : AW G cc own nL fr lo rt Φ pc ls (.inr (7, 0, 0, 0) :: st) M := a_get (v := .inl (M 60 2)) (C := RX7) (T := TX7) (N := 12) rfl rfl rfl inX7 8 (by decide) hw rfl hd hp kk
theorem pf_7_8 {index : Nat} {y : Int32} (hw : Cond.fieldLink own index "ColdChainModel" "typed" "I" ∈ lw_tbl) (hd : decode cc pc = .ok (.putfield index, 3)) (hp : pc + 3 = pc') (kk : AW G cc own nL fr lo rt Φ pc' ls st (wr M 60 2 y)) : AW G cc own nL fr lo rt Φ pc ls (.inl y :: .inr (7, 0, 0, 0) :: st) M := a_put (r := 60) (i := 2) (C := RX7) (T := TX7) (N := 12) (ty := .int) rfl rfl rfl inX7 tyX7 tyX7_ok nmX7 8 (by decide) hw rfl (by decide +kernel) rfl rfl (by show 8 < 12; decide) rfl (by simp [ent, wr]) hd hp kk
theorem gf_7_9 {index : Nat} (hw : Cond.fieldLink own index "ColdChainModel" "spot" "I" ∈ lw_tbl) (hd : decode cc pc = .ok (.getfield index, 3)) (hp : pc + 3 = pc') (kk : AW G cc own nL fr lo rt Φ pc' ls (.inl (M 60 3) :: st) M) : AW G cc own nL fr lo rt Φ pc ls (.inr (7, 0, 0, 0) :: st) M := a_get (v := .inl (M 60 3)) (C := RX7) (T := TX7) (N := 12) rfl rfl rfl inX7 9 (by decide) hw rfl hd hp kk
theorem pf_7_9 {index : Nat} {y : Int32} (hw : Cond.fieldLink own index "ColdChainModel" "spot" "I" ∈ lw_tbl) (hd : decode cc pc = .ok (.putfield index, 3)) (hp : pc + 3 = pc') (kk : AW G cc own nL fr lo rt Φ pc' ls st (wr M 60 3 y)) : AW G cc own nL fr lo rt Φ pc ls (.inl y :: .inr (7, 0, 0, 0) :: st) M := a_put (r := 60) (i := 3) (C := RX7) (T := TX7) (N := 12) (ty := .int) rfl rfl rfl inX7 tyX7 tyX7_ok nmX7 9 (by decide) hw rfl (by decide +kernel) rfl rfl (by show 9 < 12; decide) rfl (by simp [ent, wr]) hd hp kk
theorem gf_7_10 {index : Nat} (hw : Cond.fieldLink own index "ColdChainModel" "letter" "I" ∈ lw_tbl) (hd : decode cc pc = .ok (.getfield index, 3)) (hp : pc + 3 = pc') (kk : AW G cc own nL fr lo rt Φ pc' ls (.inl (M 60 4) :: st) M) : AW G cc own nL fr lo rt Φ pc ls (.inr (7, 0, 0, 0) :: st) M := a_get (v := .inl (M 60 4)) (C := RX7) (T := TX7) (N := 12) rfl rfl rfl inX7 10 (by decide) hw rfl hd hp kk
theorem pf_7_10 {index : Nat} {y : Int32} (hw : Cond.fieldLink own index "ColdChainModel" "letter" "I" ∈ lw_tbl) (hd : decode cc pc = .ok (.putfield index, 3)) (hp : pc + 3 = pc') (kk : AW G cc own nL fr lo rt Φ pc' ls st (wr M 60 4 y)) : AW G cc own nL fr lo rt Φ pc ls (.inl y :: .inr (7, 0, 0, 0) :: st) M := a_put (r := 60) (i := 4) (C := RX7) (T := TX7) (N := 12) (ty := .int) rfl rfl rfl inX7 tyX7 tyX7_ok nmX7 10 (by decide) hw rfl (by decide +kernel) rfl rfl (by show 10 < 12; decide) rfl (by simp [ent, wr]) hd hp kk
theorem gf_7_11 {index : Nat} (hw : Cond.fieldLink own index "ColdChainModel" "numbers" "[I" ∈ lw_tbl) (hd : decode cc pc = .ok (.getfield index, 3)) (hp : pc + 3 = pc') (kk : AW G cc own nL fr lo rt Φ pc' ls (.inr (9, 56, 2, 0) :: st) M) : AW G cc own nL fr lo rt Φ pc ls (.inr (7, 0, 0, 0) :: st) M := a_get (v := .inr (9, 56, 2, 0)) (C := RX7) (T := TX7) (N := 12) rfl rfl rfl inX7 11 (by decide) hw rfl hd hp kk
theorem aa_10 {q : Nat} {i : Int32} (hq : q < 9) (hi : vp_in i 12) (hd : decode cc pc = .ok (.aaload, 1)) (hp : pc + 1 = pc') (kk : AW G cc own nL fr lo rt Φ pc' ls (.inr (1, q, i.toNatClampNeg, 0) :: st) M) : AW G cc own nL fr lo rt Φ pc ls (.inl i :: .inr (10, q, 0, 0) :: st) M := a_aald (kd := 10) (t0 := 2) (by simp [okO, hq]) rfl rfl rfl hi rfl hd hp kk
theorem aa_11 {i : Int32} (hi : vp_in i 7) (hd : decode cc pc = .ok (.aaload, 1)) (hp : pc + 1 = pc') (kk : AW G cc own nL fr lo rt Φ pc' ls (.inr (3, 2 + i.toNatClampNeg, 0, 0) :: st) M) : AW G cc own nL fr lo rt Φ pc ls (.inl i :: .inr (11, 0, 0, 0) :: st) M := a_aald (kd := 11) (t0 := 3) rfl rfl rfl rfl hi rfl hd hp kk
theorem aa_12 {q : Nat} {i : Int32} (hq : q < 9) (hi : vp_in i 3) (hd : decode cc pc = .ok (.aaload, 1)) (hp : pc + 1 = pc') (kk : AW G cc own nL fr lo rt Φ pc' ls (.inr (4, q, i.toNatClampNeg, 0) :: st) M) : AW G cc own nL fr lo rt Φ pc ls (.inl i :: .inr (12, q, 0, 0) :: st) M := a_aald (kd := 12) (t0 := 4) (by simp [okO, hq]) rfl rfl rfl hi rfl hd hp kk
theorem aa_13 {q v : Nat} {i : Int32} (hq : q < 9) (hv : v < 3) (hi : vp_in i 3) (hd : decode cc pc = .ok (.aaload, 1)) (hp : pc + 1 = pc') (kk : AW G cc own nL fr lo rt Φ pc' ls (.inr (5, q, v, i.toNatClampNeg) :: st) M) : AW G cc own nL fr lo rt Φ pc ls (.inl i :: .inr (13, q, v, 0) :: st) M := a_aald (kd := 13) (t0 := 5) (by simp [okO, hq, hv]) rfl rfl rfl hi rfl hd hp kk
theorem aa_14 {t : Nat} {i : Int32} (hq : t < 2) (hi : vp_in i 9) (hd : decode cc pc = .ok (.aaload, 1)) (hp : pc + 1 = pc') (kk : AW G cc own nL fr lo rt Φ pc' ls (.inr (9, 30 + 9 * t + i.toNatClampNeg, 601, 0) :: st) M) : AW G cc own nL fr lo rt Φ pc ls (.inl i :: .inr (14, t, 0, 0) :: st) M := a_aald (kd := 14) (t0 := 6) (by simp [okO, hq]) rfl rfl rfl hi rfl hd hp kk
end Objs
end
