-- ===== PART A: goes FIRST, ahead of the names: the tables' words, and 'selects' of the private methods out of them =====
/-- a private method of a class that the tables say can be made, by its rows of tables_1 -/
def lw_okq (q : MethodName × Nat) : Prop := (q.1.cls ≠ "java/lang/invoke/MethodHandle" ∧ q.1.cls ≠ "java/lang/invoke/VarHandle") ∧ Cond.instantiable q.1.cls q.2 ∈ tables_1 ∧ Cond.privateMethod q.1 ∈ tables_1 ∧ Cond.instanceMethod q.1 ∈ tables_1
theorem lw_p0 : lw_okq (⟨"PageRotas", "settled", "(I)I"⟩, 4) := ⟨⟨by decide +kernel, by decide +kernel⟩, List.mem_of_getElem? (i := 18) (by decide +kernel), List.mem_of_getElem? (i := 415) (by decide +kernel), List.mem_of_getElem? (i := 416) (by decide +kernel)⟩
theorem lw_p1 : lw_okq (⟨"PageRotas$History", "dropOldest", "()V"⟩, 2) := ⟨⟨by decide +kernel, by decide +kernel⟩, List.mem_of_getElem? (i := 304) (by decide +kernel), List.mem_of_getElem? (i := 423) (by decide +kernel), List.mem_of_getElem? (i := 424) (by decide +kernel)⟩
theorem lw_p2 : lw_okq (⟨"PageRotas$House", "fold", "(LPageRotas$Incident;I)Z"⟩, 6) := ⟨⟨by decide +kernel, by decide +kernel⟩, List.mem_of_getElem? (i := 26) (by decide +kernel), List.mem_of_getElem? (i := 565) (by decide +kernel), List.mem_of_getElem? (i := 566) (by decide +kernel)⟩
theorem lw_p3 : lw_okq (⟨"PageRotas$House", "page", "(LPageRotas$Incident;I)V"⟩, 6) := ⟨⟨by decide +kernel, by decide +kernel⟩, List.mem_of_getElem? (i := 26) (by decide +kernel), List.mem_of_getElem? (i := 579) (by decide +kernel), List.mem_of_getElem? (i := 580) (by decide +kernel)⟩
theorem lw_p4 : lw_okq (⟨"PageRotas$House", "age", "(LPageRotas$Incident;I)Z"⟩, 6) := ⟨⟨by decide +kernel, by decide +kernel⟩, List.mem_of_getElem? (i := 26) (by decide +kernel), List.mem_of_getElem? (i := 629) (by decide +kernel), List.mem_of_getElem? (i := 630) (by decide +kernel)⟩
theorem lw_p5 : lw_okq (⟨"PageRotas$Script", "readCommand", "(I)I"⟩, 7) := ⟨⟨by decide +kernel, by decide +kernel⟩, List.mem_of_getElem? (i := 321) (by decide +kernel), List.mem_of_getElem? (i := 726) (by decide +kernel), List.mem_of_getElem? (i := 727) (by decide +kernel)⟩
theorem lw_p6 : lw_okq (⟨"PageRotas$Script", "signAt", "(I)C"⟩, 7) := ⟨⟨by decide +kernel, by decide +kernel⟩, List.mem_of_getElem? (i := 321) (by decide +kernel), List.mem_of_getElem? (i := 730) (by decide +kernel), List.mem_of_getElem? (i := 731) (by decide +kernel)⟩
theorem lw_p7 : lw_okq (⟨"PageRotas$Script", "readNumber", "(IIC)I"⟩, 7) := ⟨⟨by decide +kernel, by decide +kernel⟩, List.mem_of_getElem? (i := 321) (by decide +kernel), List.mem_of_getElem? (i := 737) (by decide +kernel), List.mem_of_getElem? (i := 738) (by decide +kernel)⟩
theorem lw_p8 : lw_okq (⟨"PageRotas$Script", "obey", "(LPageRotas$House;)I"⟩, 7) := ⟨⟨by decide +kernel, by decide +kernel⟩, List.mem_of_getElem? (i := 321) (by decide +kernel), List.mem_of_getElem? (i := 744) (by decide +kernel), List.mem_of_getElem? (i := 745) (by decide +kernel)⟩
theorem lw_p9 : lw_okq (⟨"PageRotasModel", "begins", "()V"⟩, 11) := ⟨⟨by decide +kernel, by decide +kernel⟩, List.mem_of_getElem? (i := 760) (by decide +kernel), List.mem_of_getElem? (i := 804) (by decide +kernel), List.mem_of_getElem? (i := 805) (by decide +kernel)⟩
theorem lw_p10 : lw_okq (⟨"PageRotasModel", "comes", "()I"⟩, 11) := ⟨⟨by decide +kernel, by decide +kernel⟩, List.mem_of_getElem? (i := 760) (by decide +kernel), List.mem_of_getElem? (i := 808) (by decide +kernel), List.mem_of_getElem? (i := 809) (by decide +kernel)⟩
theorem lw_p11 : lw_okq (⟨"PageRotasModel", "acted", "(I)I"⟩, 11) := ⟨⟨by decide +kernel, by decide +kernel⟩, List.mem_of_getElem? (i := 760) (by decide +kernel), List.mem_of_getElem? (i := 812) (by decide +kernel), List.mem_of_getElem? (i := 813) (by decide +kernel)⟩
theorem lw_p12 : lw_okq (⟨"PageRotasModel", "lies", "(III)I"⟩, 11) := ⟨⟨by decide +kernel, by decide +kernel⟩, List.mem_of_getElem? (i := 760) (by decide +kernel), List.mem_of_getElem? (i := 820) (by decide +kernel), List.mem_of_getElem? (i := 821) (by decide +kernel)⟩
theorem lw_p13 : lw_okq (⟨"PageRotasModel", "joins", "(II)I"⟩, 11) := ⟨⟨by decide +kernel, by decide +kernel⟩, List.mem_of_getElem? (i := 760) (by decide +kernel), List.mem_of_getElem? (i := 831) (by decide +kernel), List.mem_of_getElem? (i := 832) (by decide +kernel)⟩
theorem lw_p14 : lw_okq (⟨"PageRotasModel", "isRegion", "(I)Z"⟩, 11) := ⟨⟨by decide +kernel, by decide +kernel⟩, List.mem_of_getElem? (i := 760) (by decide +kernel), List.mem_of_getElem? (i := 835) (by decide +kernel), List.mem_of_getElem? (i := 836) (by decide +kernel)⟩
theorem lw_p15 : lw_okq (⟨"PageRotasModel", "isPerson", "(I)Z"⟩, 11) := ⟨⟨by decide +kernel, by decide +kernel⟩, List.mem_of_getElem? (i := 760) (by decide +kernel), List.mem_of_getElem? (i := 839) (by decide +kernel), List.mem_of_getElem? (i := 840) (by decide +kernel)⟩
def lw_privs_1 : List (MethodName × Nat) := [(⟨"PageRotas", "settled", "(I)I"⟩, 4), (⟨"PageRotas$History", "dropOldest", "()V"⟩, 2), (⟨"PageRotas$House", "fold", "(LPageRotas$Incident;I)Z"⟩, 6), (⟨"PageRotas$House", "page", "(LPageRotas$Incident;I)V"⟩, 6), (⟨"PageRotas$House", "age", "(LPageRotas$Incident;I)Z"⟩, 6), (⟨"PageRotas$Script", "readCommand", "(I)I"⟩, 7), (⟨"PageRotas$Script", "signAt", "(I)C"⟩, 7), (⟨"PageRotas$Script", "readNumber", "(IIC)I"⟩, 7), (⟨"PageRotas$Script", "obey", "(LPageRotas$House;)I"⟩, 7), (⟨"PageRotasModel", "begins", "()V"⟩, 11), (⟨"PageRotasModel", "comes", "()I"⟩, 11), (⟨"PageRotasModel", "acted", "(I)I"⟩, 11), (⟨"PageRotasModel", "lies", "(III)I"⟩, 11), (⟨"PageRotasModel", "joins", "(II)I"⟩, 11), (⟨"PageRotasModel", "isRegion", "(I)Z"⟩, 11), (⟨"PageRotasModel", "isPerson", "(I)Z"⟩, 11)]
theorem lw_r1 : ∀ q ∈ lw_privs_1, lw_okq q := List.forall_mem_cons.mpr ⟨lw_p0, List.forall_mem_cons.mpr ⟨lw_p1, List.forall_mem_cons.mpr ⟨lw_p2, List.forall_mem_cons.mpr ⟨lw_p3, List.forall_mem_cons.mpr ⟨lw_p4, List.forall_mem_cons.mpr ⟨lw_p5, List.forall_mem_cons.mpr ⟨lw_p6, List.forall_mem_cons.mpr ⟨lw_p7, List.forall_mem_cons.mpr ⟨lw_p8, List.forall_mem_cons.mpr ⟨lw_p9, List.forall_mem_cons.mpr ⟨lw_p10, List.forall_mem_cons.mpr ⟨lw_p11, List.forall_mem_cons.mpr ⟨lw_p12, List.forall_mem_cons.mpr ⟨lw_p13, List.forall_mem_cons.mpr ⟨lw_p14, List.forall_mem_cons.mpr ⟨lw_p15, fun _ h => absurd h List.not_mem_nil⟩⟩⟩⟩⟩⟩⟩⟩⟩⟩⟩⟩⟩⟩⟩⟩
theorem lw_p16 : lw_okq (⟨"PageRotasModel", "placeIn", "(II)I"⟩, 11) := ⟨⟨by decide +kernel, by decide +kernel⟩, List.mem_of_getElem? (i := 760) (by decide +kernel), List.mem_of_getElem? (i := 843) (by decide +kernel), List.mem_of_getElem? (i := 844) (by decide +kernel)⟩
theorem lw_p17 : lw_okq (⟨"PageRotasModel", "ofWhere", "(II)I"⟩, 11) := ⟨⟨by decide +kernel, by decide +kernel⟩, List.mem_of_getElem? (i := 760) (by decide +kernel), List.mem_of_getElem? (i := 847) (by decide +kernel), List.mem_of_getElem? (i := 848) (by decide +kernel)⟩
theorem lw_p18 : lw_okq (⟨"PageRotasModel", "leaves", "(II)I"⟩, 11) := ⟨⟨by decide +kernel, by decide +kernel⟩, List.mem_of_getElem? (i := 760) (by decide +kernel), List.mem_of_getElem? (i := 855) (by decide +kernel), List.mem_of_getElem? (i := 856) (by decide +kernel)⟩
theorem lw_p19 : lw_okq (⟨"PageRotasModel", "rests", "(III)I"⟩, 11) := ⟨⟨by decide +kernel, by decide +kernel⟩, List.mem_of_getElem? (i := 760) (by decide +kernel), List.mem_of_getElem? (i := 863) (by decide +kernel), List.mem_of_getElem? (i := 864) (by decide +kernel)⟩
theorem lw_p20 : lw_okq (⟨"PageRotasModel", "excepts", "(II)I"⟩, 11) := ⟨⟨by decide +kernel, by decide +kernel⟩, List.mem_of_getElem? (i := 760) (by decide +kernel), List.mem_of_getElem? (i := 871) (by decide +kernel), List.mem_of_getElem? (i := 872) (by decide +kernel)⟩
theorem lw_p21 : lw_okq (⟨"PageRotasModel", "ofWho", "(II)I"⟩, 11) := ⟨⟨by decide +kernel, by decide +kernel⟩, List.mem_of_getElem? (i := 760) (by decide +kernel), List.mem_of_getElem? (i := 875) (by decide +kernel), List.mem_of_getElem? (i := 876) (by decide +kernel)⟩
theorem lw_p22 : lw_okq (⟨"PageRotasModel", "overrides", "(III)I"⟩, 11) := ⟨⟨by decide +kernel, by decide +kernel⟩, List.mem_of_getElem? (i := 760) (by decide +kernel), List.mem_of_getElem? (i := 886) (by decide +kernel), List.mem_of_getElem? (i := 887) (by decide +kernel)⟩
theorem lw_p23 : lw_okq (⟨"PageRotasModel", "inForce", "()I"⟩, 11) := ⟨⟨by decide +kernel, by decide +kernel⟩, List.mem_of_getElem? (i := 760) (by decide +kernel), List.mem_of_getElem? (i := 890) (by decide +kernel), List.mem_of_getElem? (i := 891) (by decide +kernel)⟩
theorem lw_p24 : lw_okq (⟨"PageRotasModel", "clears", "()V"⟩, 11) := ⟨⟨by decide +kernel, by decide +kernel⟩, List.mem_of_getElem? (i := 760) (by decide +kernel), List.mem_of_getElem? (i := 894) (by decide +kernel), List.mem_of_getElem? (i := 895) (by decide +kernel)⟩
theorem lw_p25 : lw_okq (⟨"PageRotasModel", "alerts", "(II)I"⟩, 11) := ⟨⟨by decide +kernel, by decide +kernel⟩, List.mem_of_getElem? (i := 760) (by decide +kernel), List.mem_of_getElem? (i := 902) (by decide +kernel), List.mem_of_getElem? (i := 903) (by decide +kernel)⟩
theorem lw_p26 : lw_okq (⟨"PageRotasModel", "foldsInto", "(I)I"⟩, 11) := ⟨⟨by decide +kernel, by decide +kernel⟩, List.mem_of_getElem? (i := 760) (by decide +kernel), List.mem_of_getElem? (i := 906) (by decide +kernel), List.mem_of_getElem? (i := 907) (by decide +kernel)⟩
theorem lw_p27 : lw_okq (⟨"PageRotasModel", "isIncident", "(I)Z"⟩, 11) := ⟨⟨by decide +kernel, by decide +kernel⟩, List.mem_of_getElem? (i := 760) (by decide +kernel), List.mem_of_getElem? (i := 913) (by decide +kernel), List.mem_of_getElem? (i := 914) (by decide +kernel)⟩
theorem lw_p28 : lw_okq (⟨"PageRotasModel", "opens", "(II)I"⟩, 11) := ⟨⟨by decide +kernel, by decide +kernel⟩, List.mem_of_getElem? (i := 760) (by decide +kernel), List.mem_of_getElem? (i := 917) (by decide +kernel), List.mem_of_getElem? (i := 918) (by decide +kernel)⟩
theorem lw_p29 : lw_okq (⟨"PageRotasModel", "lowestFree", "()I"⟩, 11) := ⟨⟨by decide +kernel, by decide +kernel⟩, List.mem_of_getElem? (i := 760) (by decide +kernel), List.mem_of_getElem? (i := 921) (by decide +kernel), List.mem_of_getElem? (i := 922) (by decide +kernel)⟩
theorem lw_p30 : lw_okq (⟨"PageRotasModel", "pages", "(I)V"⟩, 11) := ⟨⟨by decide +kernel, by decide +kernel⟩, List.mem_of_getElem? (i := 760) (by decide +kernel), List.mem_of_getElem? (i := 925) (by decide +kernel), List.mem_of_getElem? (i := 926) (by decide +kernel)⟩
theorem lw_p31 : lw_okq (⟨"PageRotasModel", "personAt", "(II)I"⟩, 11) := ⟨⟨by decide +kernel, by decide +kernel⟩, List.mem_of_getElem? (i := 760) (by decide +kernel), List.mem_of_getElem? (i := 929) (by decide +kernel), List.mem_of_getElem? (i := 930) (by decide +kernel)⟩
def lw_privs_2 : List (MethodName × Nat) := [(⟨"PageRotasModel", "placeIn", "(II)I"⟩, 11), (⟨"PageRotasModel", "ofWhere", "(II)I"⟩, 11), (⟨"PageRotasModel", "leaves", "(II)I"⟩, 11), (⟨"PageRotasModel", "rests", "(III)I"⟩, 11), (⟨"PageRotasModel", "excepts", "(II)I"⟩, 11), (⟨"PageRotasModel", "ofWho", "(II)I"⟩, 11), (⟨"PageRotasModel", "overrides", "(III)I"⟩, 11), (⟨"PageRotasModel", "inForce", "()I"⟩, 11), (⟨"PageRotasModel", "clears", "()V"⟩, 11), (⟨"PageRotasModel", "alerts", "(II)I"⟩, 11), (⟨"PageRotasModel", "foldsInto", "(I)I"⟩, 11), (⟨"PageRotasModel", "isIncident", "(I)Z"⟩, 11), (⟨"PageRotasModel", "opens", "(II)I"⟩, 11), (⟨"PageRotasModel", "lowestFree", "()I"⟩, 11), (⟨"PageRotasModel", "pages", "(I)V"⟩, 11), (⟨"PageRotasModel", "personAt", "(II)I"⟩, 11)]
theorem lw_r2 : ∀ q ∈ lw_privs_2, lw_okq q := List.forall_mem_cons.mpr ⟨lw_p16, List.forall_mem_cons.mpr ⟨lw_p17, List.forall_mem_cons.mpr ⟨lw_p18, List.forall_mem_cons.mpr ⟨lw_p19, List.forall_mem_cons.mpr ⟨lw_p20, List.forall_mem_cons.mpr ⟨lw_p21, List.forall_mem_cons.mpr ⟨lw_p22, List.forall_mem_cons.mpr ⟨lw_p23, List.forall_mem_cons.mpr ⟨lw_p24, List.forall_mem_cons.mpr ⟨lw_p25, List.forall_mem_cons.mpr ⟨lw_p26, List.forall_mem_cons.mpr ⟨lw_p27, List.forall_mem_cons.mpr ⟨lw_p28, List.forall_mem_cons.mpr ⟨lw_p29, List.forall_mem_cons.mpr ⟨lw_p30, List.forall_mem_cons.mpr ⟨lw_p31, fun _ h => absurd h List.not_mem_nil⟩⟩⟩⟩⟩⟩⟩⟩⟩⟩⟩⟩⟩⟩⟩⟩
theorem lw_p32 : lw_okq (⟨"PageRotasModel", "regionAt", "(I)I"⟩, 11) := ⟨⟨by decide +kernel, by decide +kernel⟩, List.mem_of_getElem? (i := 760) (by decide +kernel), List.mem_of_getElem? (i := 933) (by decide +kernel), List.mem_of_getElem? (i := 934) (by decide +kernel)⟩
theorem lw_p33 : lw_okq (⟨"PageRotasModel", "covers", "(II)Z"⟩, 11) := ⟨⟨by decide +kernel, by decide +kernel⟩, List.mem_of_getElem? (i := 760) (by decide +kernel), List.mem_of_getElem? (i := 937) (by decide +kernel), List.mem_of_getElem? (i := 938) (by decide +kernel)⟩
theorem lw_p34 : lw_okq (⟨"PageRotasModel", "isQuiet", "(II)Z"⟩, 11) := ⟨⟨by decide +kernel, by decide +kernel⟩, List.mem_of_getElem? (i := 760) (by decide +kernel), List.mem_of_getElem? (i := 944) (by decide +kernel), List.mem_of_getElem? (i := 945) (by decide +kernel)⟩
theorem lw_p35 : lw_okq (⟨"PageRotasModel", "isException", "(II)Z"⟩, 11) := ⟨⟨by decide +kernel, by decide +kernel⟩, List.mem_of_getElem? (i := 760) (by decide +kernel), List.mem_of_getElem? (i := 948) (by decide +kernel), List.mem_of_getElem? (i := 949) (by decide +kernel)⟩
theorem lw_p36 : lw_okq (⟨"PageRotasModel", "acknowledges", "(I)I"⟩, 11) := ⟨⟨by decide +kernel, by decide +kernel⟩, List.mem_of_getElem? (i := 760) (by decide +kernel), List.mem_of_getElem? (i := 956) (by decide +kernel), List.mem_of_getElem? (i := 957) (by decide +kernel)⟩
theorem lw_p37 : lw_okq (⟨"PageRotasModel", "resolves", "(I)I"⟩, 11) := ⟨⟨by decide +kernel, by decide +kernel⟩, List.mem_of_getElem? (i := 760) (by decide +kernel), List.mem_of_getElem? (i := 964) (by decide +kernel), List.mem_of_getElem? (i := 965) (by decide +kernel)⟩
theorem lw_p38 : lw_okq (⟨"PageRotasModel", "passes", "(I)I"⟩, 11) := ⟨⟨by decide +kernel, by decide +kernel⟩, List.mem_of_getElem? (i := 760) (by decide +kernel), List.mem_of_getElem? (i := 972) (by decide +kernel), List.mem_of_getElem? (i := 973) (by decide +kernel)⟩
theorem lw_p39 : lw_okq (⟨"PageRotasModel", "minute", "()V"⟩, 11) := ⟨⟨by decide +kernel, by decide +kernel⟩, List.mem_of_getElem? (i := 760) (by decide +kernel), List.mem_of_getElem? (i := 976) (by decide +kernel), List.mem_of_getElem? (i := 977) (by decide +kernel)⟩
theorem lw_p40 : lw_okq (⟨"PageRotasModel", "minuteOf", "(I)V"⟩, 11) := ⟨⟨by decide +kernel, by decide +kernel⟩, List.mem_of_getElem? (i := 760) (by decide +kernel), List.mem_of_getElem? (i := 980) (by decide +kernel), List.mem_of_getElem? (i := 981) (by decide +kernel)⟩
theorem lw_p41 : lw_okq (⟨"PageRotasModel", "sets", "(II)I"⟩, 11) := ⟨⟨by decide +kernel, by decide +kernel⟩, List.mem_of_getElem? (i := 760) (by decide +kernel), List.mem_of_getElem? (i := 988) (by decide +kernel), List.mem_of_getElem? (i := 989) (by decide +kernel)⟩
theorem lw_p42 : lw_okq (⟨"PageRotasModel", "ownedBy", "(IZ)I"⟩, 11) := ⟨⟨by decide +kernel, by decide +kernel⟩, List.mem_of_getElem? (i := 760) (by decide +kernel), List.mem_of_getElem? (i := 1000) (by decide +kernel), List.mem_of_getElem? (i := 1001) (by decide +kernel)⟩
theorem lw_p43 : lw_okq (⟨"PageRotasModel", "rotasOf", "(I)I"⟩, 11) := ⟨⟨by decide +kernel, by decide +kernel⟩, List.mem_of_getElem? (i := 760) (by decide +kernel), List.mem_of_getElem? (i := 1004) (by decide +kernel), List.mem_of_getElem? (i := 1005) (by decide +kernel)⟩
theorem lw_p44 : lw_okq (⟨"PageRotasModel", "openOnes", "(I)I"⟩, 11) := ⟨⟨by decide +kernel, by decide +kernel⟩, List.mem_of_getElem? (i := 760) (by decide +kernel), List.mem_of_getElem? (i := 1016) (by decide +kernel), List.mem_of_getElem? (i := 1017) (by decide +kernel)⟩
theorem lw_p45 : lw_okq (⟨"PageRotasModel", "does", "()I"⟩, 11) := ⟨⟨by decide +kernel, by decide +kernel⟩, List.mem_of_getElem? (i := 760) (by decide +kernel), List.mem_of_getElem? (i := 1066) (by decide +kernel), List.mem_of_getElem? (i := 1067) (by decide +kernel)⟩
theorem lw_p46 : lw_okq (⟨"PageRotasModel", "command", "()I"⟩, 11) := ⟨⟨by decide +kernel, by decide +kernel⟩, List.mem_of_getElem? (i := 760) (by decide +kernel), List.mem_of_getElem? (i := 1070) (by decide +kernel), List.mem_of_getElem? (i := 1071) (by decide +kernel)⟩
theorem lw_p47 : lw_okq (⟨"PageRotasModel", "here", "()I"⟩, 11) := ⟨⟨by decide +kernel, by decide +kernel⟩, List.mem_of_getElem? (i := 760) (by decide +kernel), List.mem_of_getElem? (i := 1074) (by decide +kernel), List.mem_of_getElem? (i := 1075) (by decide +kernel)⟩
def lw_privs_3 : List (MethodName × Nat) := [(⟨"PageRotasModel", "regionAt", "(I)I"⟩, 11), (⟨"PageRotasModel", "covers", "(II)Z"⟩, 11), (⟨"PageRotasModel", "isQuiet", "(II)Z"⟩, 11), (⟨"PageRotasModel", "isException", "(II)Z"⟩, 11), (⟨"PageRotasModel", "acknowledges", "(I)I"⟩, 11), (⟨"PageRotasModel", "resolves", "(I)I"⟩, 11), (⟨"PageRotasModel", "passes", "(I)I"⟩, 11), (⟨"PageRotasModel", "minute", "()V"⟩, 11), (⟨"PageRotasModel", "minuteOf", "(I)V"⟩, 11), (⟨"PageRotasModel", "sets", "(II)I"⟩, 11), (⟨"PageRotasModel", "ownedBy", "(IZ)I"⟩, 11), (⟨"PageRotasModel", "rotasOf", "(I)I"⟩, 11), (⟨"PageRotasModel", "openOnes", "(I)I"⟩, 11), (⟨"PageRotasModel", "does", "()I"⟩, 11), (⟨"PageRotasModel", "command", "()I"⟩, 11), (⟨"PageRotasModel", "here", "()I"⟩, 11)]
theorem lw_r3 : ∀ q ∈ lw_privs_3, lw_okq q := List.forall_mem_cons.mpr ⟨lw_p32, List.forall_mem_cons.mpr ⟨lw_p33, List.forall_mem_cons.mpr ⟨lw_p34, List.forall_mem_cons.mpr ⟨lw_p35, List.forall_mem_cons.mpr ⟨lw_p36, List.forall_mem_cons.mpr ⟨lw_p37, List.forall_mem_cons.mpr ⟨lw_p38, List.forall_mem_cons.mpr ⟨lw_p39, List.forall_mem_cons.mpr ⟨lw_p40, List.forall_mem_cons.mpr ⟨lw_p41, List.forall_mem_cons.mpr ⟨lw_p42, List.forall_mem_cons.mpr ⟨lw_p43, List.forall_mem_cons.mpr ⟨lw_p44, List.forall_mem_cons.mpr ⟨lw_p45, List.forall_mem_cons.mpr ⟨lw_p46, List.forall_mem_cons.mpr ⟨lw_p47, fun _ h => absurd h List.not_mem_nil⟩⟩⟩⟩⟩⟩⟩⟩⟩⟩⟩⟩⟩⟩⟩⟩
theorem lw_p48 : lw_okq (⟨"PageRotasModel", "readNumber", "(I)I"⟩, 11) := ⟨⟨by decide +kernel, by decide +kernel⟩, List.mem_of_getElem? (i := 760) (by decide +kernel), List.mem_of_getElem? (i := 1078) (by decide +kernel), List.mem_of_getElem? (i := 1079) (by decide +kernel)⟩
theorem lw_p49 : lw_okq (⟨"PageRotasModel", "must", "(I)V"⟩, 11) := ⟨⟨by decide +kernel, by decide +kernel⟩, List.mem_of_getElem? (i := 760) (by decide +kernel), List.mem_of_getElem? (i := 1082) (by decide +kernel), List.mem_of_getElem? (i := 1083) (by decide +kernel)⟩
theorem lw_p50 : lw_okq (⟨"PageRotasModel", "returns", "()V"⟩, 11) := ⟨⟨by decide +kernel, by decide +kernel⟩, List.mem_of_getElem? (i := 760) (by decide +kernel), List.mem_of_getElem? (i := 1086) (by decide +kernel), List.mem_of_getElem? (i := 1087) (by decide +kernel)⟩
def lw_privs_4 : List (MethodName × Nat) := [(⟨"PageRotasModel", "readNumber", "(I)I"⟩, 11), (⟨"PageRotasModel", "must", "(I)V"⟩, 11), (⟨"PageRotasModel", "returns", "()V"⟩, 11)]
theorem lw_r4 : ∀ q ∈ lw_privs_4, lw_okq q := List.forall_mem_cons.mpr ⟨lw_p48, List.forall_mem_cons.mpr ⟨lw_p49, List.forall_mem_cons.mpr ⟨lw_p50, fun _ h => absurd h List.not_mem_nil⟩⟩⟩
def lw_privs : List (MethodName × Nat) := lw_privs_1 ++ (lw_privs_2 ++ (lw_privs_3 ++ (lw_privs_4)))
def lw_tbl : List Cond := k2_sels lw_privs ++ tables_1
theorem lw_privs_ok : ∀ q ∈ lw_privs, lw_okq q := by
  show ∀ q ∈ lw_privs_1 ++ (lw_privs_2 ++ (lw_privs_3 ++ (lw_privs_4))), lw_okq q
  exact List.forall_mem_append.mpr ⟨lw_r1, List.forall_mem_append.mpr ⟨lw_r2, List.forall_mem_append.mpr ⟨lw_r3, lw_r4⟩⟩⟩
/-- the streams that the claim lets the run draw from -/
abbrev lw_cs : List Choice := [Jvm.Choice.named "NaN.bits"]
theorem lw_bits : nanBits ∈ lw_cs := by first | decide | exact List.mem_cons_self | simp [lw_cs, nanBits]
/-! ===== BEGIN words of one list among another's, by their places ===== -/
theorem goodIn_r {big : List Cond} (ws : List Cond) (ps : List Nat) (hp : ws = ps.filterMap (fun i => big[i]?)) (h : ws.all goodWord = true) : GoodIn big ws := by
  intro w hw
  have h1 := List.all_eq_true.mp h w hw
  rw [hp] at hw
  obtain ⟨i, -, hi⟩ := List.mem_filterMap.mp hw
  have hm : w ∈ big := by first | exact List.mem_of_getElem? hi | exact List.getElem?_mem hi
  exact ⟨hm, good_of_word h1⟩
theorem goodIn_app {big a b : List Cond} (ha : GoodIn big a) (hb : GoodIn big b) : GoodIn big (a ++ b) := fun w h => (List.mem_append.mp h).elim (ha w) (hb w)
theorem goodIn_ca {big a b : List Cond} {c : Cond} (ha : GoodIn big (c :: a)) (hb : GoodIn big b) : GoodIn big (c :: (a ++ b)) := fun w h => (List.mem_cons.mp h).elim (fun e => ha w (List.mem_cons.mpr (Or.inl e))) (fun h => (List.mem_append.mp h).elim (fun h => ha w (List.mem_cons.mpr (Or.inr h))) (hb w))
theorem goodIn_sub {big ws : List Cond} (hm : ∀ w ∈ ws, w ∈ big) (h : ws.all goodWord = true) : GoodIn big ws := fun w hw => ⟨hm w hw, good_of_word (List.all_eq_true.mp h w hw)⟩
/-! ===== END ===== -/

/-! ===== BEGIN printed: names, fields, word lists, decode rows ===== -/
def RX0 : String := "PageRotas$History"
def TX0 : u_T := fun k => match k with
  | 0 => ("PageRotas$History", "states", "[LPageRotas$House;", true)
  | _ => ("PageRotas$History", "size", "I", false)
def tyX0 : Nat → FieldType := fun k => match k with
  | 0 => .array (.object "PageRotas$House")
  | _ => .int
abbrev wsX00 : List Cond := u_ws RX0 TX0 2
theorem nmX0 : ∀ a, a < 2 → ∀ b, b < 2 → a ≠ b → (TX0 a).2.1 ≠ (TX0 b).2.1 := by decide +kernel
theorem tyX0_ok : ∀ k, k < 2 → parseFieldDescriptor (TX0 k).2.2.1 = some (tyX0 k) := by decide +kernel
abbrev cX0_init : ByteArray := prog_2_method_1_code
def yX0_init : MethodName := ⟨RX0, "<init>", "()V"⟩
abbrev cX0_prepare : ByteArray := prog_2_method_2_code
def yX0_prepare : MethodName := ⟨RX0, "prepare", "(LPageRotas$House;)V"⟩
abbrev cX0_keepPrepared : ByteArray := prog_2_method_3_code
def yX0_keepPrepared : MethodName := ⟨RX0, "keepPrepared", "()V"⟩
abbrev cX0_dropOldest : ByteArray := prog_2_method_4_code
def yX0_dropOldest : MethodName := ⟨RX0, "dropOldest", "()V"⟩
abbrev cX0_restore : ByteArray := prog_2_method_5_code
def yX0_restore : MethodName := ⟨RX0, "restore", "(LPageRotas$House;)V"⟩
def RX1 : String := "PageRotas$House"
def TX1 : u_T := fun k => match k with
  | 0 => ("PageRotas$House", "rotas", "LPageRotas$Rotas;", true)
  | 1 => ("PageRotas$House", "incidents", "[LPageRotas$Incident;", true)
  | 2 => ("PageRotas$House", "totals", "LPageRotas$Totals;", true)
  | 3 => ("PageRotas$House", "time", "I", false)
  | 4 => ("PageRotas$House", "escalateAfter", "I", false)
  | _ => ("PageRotas$House", "foldWithin", "I", false)
def tyX1 : Nat → FieldType := fun k => match k with
  | 0 => .object "PageRotas$Rotas"
  | 1 => .array (.object "PageRotas$Incident")
  | 2 => .object "PageRotas$Totals"
  | 3 => .int
  | 4 => .int
  | _ => .int
abbrev wsX10 : List Cond := u_ws RX1 TX1 6
theorem nmX1 : ∀ a, a < 6 → ∀ b, b < 6 → a ≠ b → (TX1 a).2.1 ≠ (TX1 b).2.1 := by decide +kernel
theorem tyX1_ok : ∀ k, k < 6 → parseFieldDescriptor (TX1 k).2.2.1 = some (tyX1 k) := by decide +kernel
abbrev cX1_init : ByteArray := prog_3_method_1_code
def yX1_init : MethodName := ⟨RX1, "<init>", "()V"⟩
abbrev cX1_copyFrom : ByteArray := prog_3_method_2_code
def yX1_copyFrom : MethodName := ⟨RX1, "copyFrom", "(LPageRotas$House;)V"⟩
abbrev cX1_isOpen : ByteArray := prog_3_method_3_code
def yX1_isOpen : MethodName := ⟨RX1, "isOpen", "(I)Z"⟩
abbrev cX1_openIncidents : ByteArray := prog_3_method_4_code
def yX1_openIncidents : MethodName := ⟨RX1, "openIncidents", "()I"⟩
abbrev cX1_acknowledgedIncidents : ByteArray := prog_3_method_5_code
def yX1_acknowledgedIncidents : MethodName := ⟨RX1, "acknowledgedIncidents", "()I"⟩
abbrev cX1_ownedBy : ByteArray := prog_3_method_6_code
def yX1_ownedBy : MethodName := ⟨RX1, "ownedBy", "(IZ)I"⟩
abbrev cX1_putStandIn : ByteArray := prog_3_method_7_code
def yX1_putStandIn : MethodName := ⟨RX1, "putStandIn", "(III)I"⟩
abbrev cX1_putSetting : ByteArray := prog_3_method_8_code
def yX1_putSetting : MethodName := ⟨RX1, "putSetting", "(II)I"⟩
abbrev cX1_takeAlert : ByteArray := prog_3_method_9_code
def yX1_takeAlert : MethodName := ⟨RX1, "takeAlert", "(II)I"⟩
abbrev cX1_fold : ByteArray := prog_3_method_10_code
def yX1_fold : MethodName := ⟨RX1, "fold", "(LPageRotas$Incident;I)Z"⟩
abbrev cX1_page : ByteArray := prog_3_method_11_code
def yX1_page : MethodName := ⟨RX1, "page", "(LPageRotas$Incident;I)V"⟩
abbrev cX1_takeAcknowledgement : ByteArray := prog_3_method_12_code
def yX1_takeAcknowledgement : MethodName := ⟨RX1, "takeAcknowledgement", "(I)I"⟩
abbrev cX1_close : ByteArray := prog_3_method_13_code
def yX1_close : MethodName := ⟨RX1, "close", "(I)I"⟩
abbrev cX1_letPass : ByteArray := prog_3_method_14_code
def yX1_letPass : MethodName := ⟨RX1, "letPass", "(I)I"⟩
abbrev cX1_follow : ByteArray := prog_3_method_15_code
def yX1_follow : MethodName := ⟨RX1, "follow", "(II)V"⟩
abbrev cX1_age : ByteArray := prog_3_method_16_code
def yX1_age : MethodName := ⟨RX1, "age", "(LPageRotas$Incident;I)Z"⟩
def RX2 : String := "PageRotas$Incident"
def TX2 : u_T := fun k => match k with
  | 0 => ("PageRotas$Incident", "open", "Z", false)
  | 1 => ("PageRotas$Incident", "cause", "I", false)
  | 2 => ("PageRotas$Incident", "severity", "I", false)
  | 3 => ("PageRotas$Incident", "level", "I", false)
  | 4 => ("PageRotas$Incident", "owner", "I", false)
  | 5 => ("PageRotas$Incident", "region", "I", false)
  | 6 => ("PageRotas$Incident", "pagedAt", "I", false)
  | 7 => ("PageRotas$Incident", "acknowledged", "Z", false)
  | 8 => ("PageRotas$Incident", "alerts", "I", false)
  | 9 => ("PageRotas$Incident", "firstAlert", "I", false)
  | 10 => ("PageRotas$Incident", "latestAlert", "I", false)
  | 11 => ("PageRotas$Incident", "unowned", "I", false)
  | 12 => ("PageRotas$Incident", "handOffs", "I", false)
  | _ => ("PageRotas$Incident", "escalations", "I", false)
def tyX2 : Nat → FieldType := fun k => match k with
  | 0 => .boolean
  | 1 => .int
  | 2 => .int
  | 3 => .int
  | 4 => .int
  | 5 => .int
  | 6 => .int
  | 7 => .boolean
  | 8 => .int
  | 9 => .int
  | 10 => .int
  | 11 => .int
  | 12 => .int
  | _ => .int
abbrev wsX20 : List Cond := u_ws RX2 TX2 14
theorem nmX2 : ∀ a, a < 14 → ∀ b, b < 14 → a ≠ b → (TX2 a).2.1 ≠ (TX2 b).2.1 := by decide +kernel
theorem tyX2_ok : ∀ k, k < 14 → parseFieldDescriptor (TX2 k).2.2.1 = some (tyX2 k) := by decide +kernel
abbrev cX2_init : ByteArray := prog_4_method_1_code
def yX2_init : MethodName := ⟨RX2, "<init>", "()V"⟩
abbrev cX2_copyFrom : ByteArray := prog_4_method_2_code
def yX2_copyFrom : MethodName := ⟨RX2, "copyFrom", "(LPageRotas$Incident;)V"⟩
abbrev cX2_makeNew : ByteArray := prog_4_method_3_code
def yX2_makeNew : MethodName := ⟨RX2, "makeNew", "(III)V"⟩
def RX3 : String := "PageRotas$Person"
def TX3 : u_T := fun k => match k with
  | 0 => ("PageRotas$Person", "quiet", "LPageRotas$Span;", true)
  | 1 => ("PageRotas$Person", "exceptions", "I", false)
  | 2 => ("PageRotas$Person", "pages", "I", false)
  | _ => ("PageRotas$Person", "resolved", "I", false)
def tyX3 : Nat → FieldType := fun k => match k with
  | 0 => .object "PageRotas$Span"
  | 1 => .int
  | 2 => .int
  | _ => .int
abbrev wsX30 : List Cond := u_ws RX3 TX3 4
theorem nmX3 : ∀ a, a < 4 → ∀ b, b < 4 → a ≠ b → (TX3 a).2.1 ≠ (TX3 b).2.1 := by decide +kernel
theorem tyX3_ok : ∀ k, k < 4 → parseFieldDescriptor (TX3 k).2.2.1 = some (tyX3 k) := by decide +kernel
abbrev cX3_init : ByteArray := prog_5_method_1_code
def yX3_init : MethodName := ⟨RX3, "<init>", "()V"⟩
abbrev cX3_copyFrom : ByteArray := prog_5_method_2_code
def yX3_copyFrom : MethodName := ⟨RX3, "copyFrom", "(LPageRotas$Person;)V"⟩
abbrev cX3_sleepsThrough : ByteArray := prog_5_method_3_code
def yX3_sleepsThrough : MethodName := ⟨RX3, "sleepsThrough", "(III)Z"⟩
def RX4 : String := "PageRotas$Region"
def TX4 : u_T := fun k => match k with
  | 0 => ("PageRotas$Region", "hours", "LPageRotas$Span;", true)
  | 1 => ("PageRotas$Region", "rota", "[I", true)
  | 2 => ("PageRotas$Region", "shift", "I", false)
  | _ => ("PageRotas$Region", "size", "I", false)
def tyX4 : Nat → FieldType := fun k => match k with
  | 0 => .object "PageRotas$Span"
  | 1 => .array .int
  | 2 => .int
  | _ => .int
abbrev wsX40 : List Cond := u_ws RX4 TX4 4
theorem nmX4 : ∀ a, a < 4 → ∀ b, b < 4 → a ≠ b → (TX4 a).2.1 ≠ (TX4 b).2.1 := by decide +kernel
theorem tyX4_ok : ∀ k, k < 4 → parseFieldDescriptor (TX4 k).2.2.1 = some (tyX4 k) := by decide +kernel
abbrev cX4_init : ByteArray := prog_6_method_1_code
def yX4_init : MethodName := ⟨RX4, "<init>", "()V"⟩
abbrev cX4_copyFrom : ByteArray := prog_6_method_2_code
def yX4_copyFrom : MethodName := ⟨RX4, "copyFrom", "(LPageRotas$Region;)V"⟩
abbrev cX4_put : ByteArray := prog_6_method_3_code
def yX4_put : MethodName := ⟨RX4, "put", "(III)V"⟩
abbrev cX4_covers : ByteArray := prog_6_method_4_code
def yX4_covers : MethodName := ⟨RX4, "covers", "(I)Z"⟩
abbrev cX4_memberAt : ByteArray := prog_6_method_5_code
def yX4_memberAt : MethodName := ⟨RX4, "memberAt", "(I)I"⟩
abbrev cX4_placeOf : ByteArray := prog_6_method_6_code
def yX4_placeOf : MethodName := ⟨RX4, "placeOf", "(I)I"⟩
abbrev cX4_add : ByteArray := prog_6_method_7_code
def yX4_add : MethodName := ⟨RX4, "add", "(I)I"⟩
abbrev cX4_remove : ByteArray := prog_6_method_8_code
def yX4_remove : MethodName := ⟨RX4, "remove", "(I)I"⟩
def RX5 : String := "PageRotas$Rotas"
def TX5 : u_T := fun k => match k with
  | 0 => ("PageRotas$Rotas", "people", "[LPageRotas$Person;", true)
  | 1 => ("PageRotas$Rotas", "regions", "[LPageRotas$Region;", true)
  | 2 => ("PageRotas$Rotas", "standIns", "[LPageRotas$StandIn;", true)
  | 3 => ("PageRotas$Rotas", "peopleCount", "I", false)
  | 4 => ("PageRotas$Rotas", "regionCount", "I", false)
  | _ => ("PageRotas$Rotas", "standInCount", "I", false)
def tyX5 : Nat → FieldType := fun k => match k with
  | 0 => .array (.object "PageRotas$Person")
  | 1 => .array (.object "PageRotas$Region")
  | 2 => .array (.object "PageRotas$StandIn")
  | 3 => .int
  | 4 => .int
  | _ => .int
abbrev wsX50 : List Cond := u_ws RX5 TX5 6
theorem nmX5 : ∀ a, a < 6 → ∀ b, b < 6 → a ≠ b → (TX5 a).2.1 ≠ (TX5 b).2.1 := by decide +kernel
theorem tyX5_ok : ∀ k, k < 6 → parseFieldDescriptor (TX5 k).2.2.1 = some (tyX5 k) := by decide +kernel
abbrev cX5_init : ByteArray := prog_7_method_1_code
def yX5_init : MethodName := ⟨RX5, "<init>", "()V"⟩
abbrev cX5_copyFrom : ByteArray := prog_7_method_2_code
def yX5_copyFrom : MethodName := ⟨RX5, "copyFrom", "(LPageRotas$Rotas;)V"⟩
abbrev cX5_hasPerson : ByteArray := prog_7_method_3_code
def yX5_hasPerson : MethodName := ⟨RX5, "hasPerson", "(I)Z"⟩
abbrev cX5_hasRegion : ByteArray := prog_7_method_4_code
def yX5_hasRegion : MethodName := ⟨RX5, "hasRegion", "(I)Z"⟩
abbrev cX5_addPerson : ByteArray := prog_7_method_5_code
def yX5_addPerson : MethodName := ⟨RX5, "addPerson", "()I"⟩
abbrev cX5_addRegion : ByteArray := prog_7_method_6_code
def yX5_addRegion : MethodName := ⟨RX5, "addRegion", "(III)I"⟩
abbrev cX5_letJoin : ByteArray := prog_7_method_7_code
def yX5_letJoin : MethodName := ⟨RX5, "letJoin", "(II)I"⟩
abbrev cX5_letLeave : ByteArray := prog_7_method_8_code
def yX5_letLeave : MethodName := ⟨RX5, "letLeave", "(II)I"⟩
abbrev cX5_putQuietHours : ByteArray := prog_7_method_9_code
def yX5_putQuietHours : MethodName := ⟨RX5, "putQuietHours", "(III)I"⟩
abbrev cX5_turnException : ByteArray := prog_7_method_10_code
def yX5_turnException : MethodName := ⟨RX5, "turnException", "(II)I"⟩
abbrev cX5_regionsOf : ByteArray := prog_7_method_11_code
def yX5_regionsOf : MethodName := ⟨RX5, "regionsOf", "(I)I"⟩
abbrev cX5_standInsAt : ByteArray := prog_7_method_12_code
def yX5_standInsAt : MethodName := ⟨RX5, "standInsAt", "(I)I"⟩
abbrev cX5_dropEndedStandIns : ByteArray := prog_7_method_13_code
def yX5_dropEndedStandIns : MethodName := ⟨RX5, "dropEndedStandIns", "(I)V"⟩
abbrev cX5_addStandIn : ByteArray := prog_7_method_14_code
def yX5_addStandIn : MethodName := ⟨RX5, "addStandIn", "(IIII)I"⟩
abbrev cX5_regionAt : ByteArray := prog_7_method_15_code
def yX5_regionAt : MethodName := ⟨RX5, "regionAt", "(I)I"⟩
abbrev cX5_personAt : ByteArray := prog_7_method_16_code
def yX5_personAt : MethodName := ⟨RX5, "personAt", "(III)I"⟩
def RX6 : String := "PageRotas$Script"
def TX6 : u_T := fun k => match k with
  | 0 => ("PageRotas$Script", "signs", "[C", true)
  | 1 => ("PageRotas$Script", "numbers", "[I", true)
  | 2 => ("PageRotas$Script", "length", "I", false)
  | 3 => ("PageRotas$Script", "verb", "I", false)
  | 4 => ("PageRotas$Script", "commands", "I", false)
  | 5 => ("PageRotas$Script", "faultAt", "I", false)
  | _ => ("PageRotas$Script", "faultReason", "I", false)
def tyX6 : Nat → FieldType := fun k => match k with
  | 0 => .array .char
  | 1 => .array .int
  | 2 => .int
  | 3 => .int
  | 4 => .int
  | 5 => .int
  | _ => .int
abbrev wsX60 : List Cond := u_ws RX6 TX6 7
theorem nmX6 : ∀ a, a < 7 → ∀ b, b < 7 → a ≠ b → (TX6 a).2.1 ≠ (TX6 b).2.1 := by decide +kernel
theorem tyX6_ok : ∀ k, k < 7 → parseFieldDescriptor (TX6 k).2.2.1 = some (tyX6 k) := by decide +kernel
abbrev cX6_init : ByteArray := prog_8_method_1_code
def yX6_init : MethodName := ⟨RX6, "<init>", "()V"⟩
abbrev cX6_append : ByteArray := prog_8_method_2_code
def yX6_append : MethodName := ⟨RX6, "append", "(C)I"⟩
abbrev cX6_perform : ByteArray := prog_8_method_3_code
def yX6_perform : MethodName := ⟨RX6, "perform", "(LPageRotas$House;)V"⟩
abbrev cX6_reasonOf : ByteArray := prog_8_method_4_code
def yX6_reasonOf : MethodName := ⟨RX6, "reasonOf", "(I)I"⟩
abbrev cX6_obey : ByteArray := prog_8_method_5_code
def yX6_obey : MethodName := ⟨RX6, "obey", "(LPageRotas$House;)I"⟩
abbrev cX6_readCommand : ByteArray := prog_8_method_6_code
def yX6_readCommand : MethodName := ⟨RX6, "readCommand", "(I)I"⟩
abbrev cX6_readNumber : ByteArray := prog_8_method_7_code
def yX6_readNumber : MethodName := ⟨RX6, "readNumber", "(IIC)I"⟩
abbrev cX6_signAt : ByteArray := prog_8_method_8_code
def yX6_signAt : MethodName := ⟨RX6, "signAt", "(I)C"⟩
abbrev cX6_isDigit : ByteArray := prog_8_method_9_code
def yX6_isDigit : MethodName := ⟨RX6, "isDigit", "(C)Z"⟩
abbrev cX6_numbersAfter : ByteArray := prog_8_method_10_code
def yX6_numbersAfter : MethodName := ⟨RX6, "numbersAfter", "(I)I"⟩
def RX7 : String := "PageRotas$Span"
def TX7 : u_T := fun k => match k with
  | 0 => ("PageRotas$Span", "from", "I", false)
  | _ => ("PageRotas$Span", "to", "I", false)
def tyX7 : Nat → FieldType := fun k => match k with
  | 0 => .int
  | _ => .int
abbrev wsX70 : List Cond := u_ws RX7 TX7 2
theorem nmX7 : ∀ a, a < 2 → ∀ b, b < 2 → a ≠ b → (TX7 a).2.1 ≠ (TX7 b).2.1 := by decide +kernel
theorem tyX7_ok : ∀ k, k < 2 → parseFieldDescriptor (TX7 k).2.2.1 = some (tyX7 k) := by decide +kernel
abbrev cX7_init : ByteArray := prog_9_method_1_code
def yX7_init : MethodName := ⟨RX7, "<init>", "()V"⟩
abbrev cX7_put : ByteArray := prog_9_method_2_code
def yX7_put : MethodName := ⟨RX7, "put", "(II)V"⟩
abbrev cX7_has : ByteArray := prog_9_method_3_code
def yX7_has : MethodName := ⟨RX7, "has", "(I)Z"⟩
abbrev cX7_hours : ByteArray := prog_9_method_4_code
def yX7_hours : MethodName := ⟨RX7, "hours", "()I"⟩
abbrev cX7_isHour : ByteArray := prog_9_method_5_code
def yX7_isHour : MethodName := ⟨RX7, "isHour", "(I)Z"⟩
def RX8 : String := "PageRotas$StandIn"
def TX8 : u_T := fun k => match k with
  | 0 => ("PageRotas$StandIn", "region", "I", false)
  | 1 => ("PageRotas$StandIn", "person", "I", false)
  | _ => ("PageRotas$StandIn", "end", "I", false)
def tyX8 : Nat → FieldType := fun k => match k with
  | 0 => .int
  | 1 => .int
  | _ => .int
abbrev wsX80 : List Cond := u_ws RX8 TX8 3
theorem nmX8 : ∀ a, a < 3 → ∀ b, b < 3 → a ≠ b → (TX8 a).2.1 ≠ (TX8 b).2.1 := by decide +kernel
theorem tyX8_ok : ∀ k, k < 3 → parseFieldDescriptor (TX8 k).2.2.1 = some (tyX8 k) := by decide +kernel
abbrev cX8_init : ByteArray := prog_10_method_1_code
def yX8_init : MethodName := ⟨RX8, "<init>", "()V"⟩
abbrev cX8_copyFrom : ByteArray := prog_10_method_2_code
def yX8_copyFrom : MethodName := ⟨RX8, "copyFrom", "(LPageRotas$StandIn;)V"⟩
abbrev cX8_isInForce : ByteArray := prog_10_method_3_code
def yX8_isInForce : MethodName := ⟨RX8, "isInForce", "(I)Z"⟩
def RX9 : String := "PageRotas$Totals"
def TX9 : u_T := fun k => match k with
  | 0 => ("PageRotas$Totals", "alerts", "I", false)
  | 1 => ("PageRotas$Totals", "folded", "I", false)
  | 2 => ("PageRotas$Totals", "pages", "I", false)
  | 3 => ("PageRotas$Totals", "resolved", "I", false)
  | 4 => ("PageRotas$Totals", "handOffs", "I", false)
  | 5 => ("PageRotas$Totals", "escalations", "I", false)
  | 6 => ("PageRotas$Totals", "unowned", "I", false)
  | 7 => ("PageRotas$Totals", "open", "I", false)
  | 8 => ("PageRotas$Totals", "acknowledgements", "I", false)
  | _ => ("PageRotas$Totals", "minutesToAcknowledge", "I", false)
def tyX9 : Nat → FieldType := fun k => match k with
  | 0 => .int
  | 1 => .int
  | 2 => .int
  | 3 => .int
  | 4 => .int
  | 5 => .int
  | 6 => .int
  | 7 => .int
  | 8 => .int
  | _ => .int
abbrev wsX90 : List Cond := u_ws RX9 TX9 10
theorem nmX9 : ∀ a, a < 10 → ∀ b, b < 10 → a ≠ b → (TX9 a).2.1 ≠ (TX9 b).2.1 := by decide +kernel
theorem tyX9_ok : ∀ k, k < 10 → parseFieldDescriptor (TX9 k).2.2.1 = some (tyX9 k) := by decide +kernel
abbrev cX9_init : ByteArray := prog_11_method_1_code
def yX9_init : MethodName := ⟨RX9, "<init>", "()V"⟩
abbrev cX9_copyFrom : ByteArray := prog_11_method_2_code
def yX9_copyFrom : MethodName := ⟨RX9, "copyFrom", "(LPageRotas$Totals;)V"⟩
abbrev cX9_numbered : ByteArray := prog_11_method_3_code
def yX9_numbered : MethodName := ⟨RX9, "numbered", "(I)I"⟩
def RX10 : String := "PageRotas"
def TX10 : u_T := fun k => match k with
  | 0 => ("PageRotas", "house", "LPageRotas$House;", true)
  | 1 => ("PageRotas", "trial", "LPageRotas$House;", true)
  | 2 => ("PageRotas", "history", "LPageRotas$History;", true)
  | _ => ("PageRotas", "script", "LPageRotas$Script;", true)
def tyX10 : Nat → FieldType := fun k => match k with
  | 0 => .object "PageRotas$House"
  | 1 => .object "PageRotas$House"
  | 2 => .object "PageRotas$History"
  | _ => .object "PageRotas$Script"
abbrev wsX100 : List Cond := u_ws RX10 TX10 4
theorem nmX10 : ∀ a, a < 4 → ∀ b, b < 4 → a ≠ b → (TX10 a).2.1 ≠ (TX10 b).2.1 := by decide +kernel
theorem tyX10_ok : ∀ k, k < 4 → parseFieldDescriptor (TX10 k).2.2.1 = some (tyX10 k) := by decide +kernel
abbrev cX10_init : ByteArray := prog_1_method_1_code
def yX10_init : MethodName := ⟨RX10, "<init>", "()V"⟩
abbrev cX10_person : ByteArray := prog_1_method_2_code
def yX10_person : MethodName := ⟨RX10, "person", "()I"⟩
abbrev cX10_region : ByteArray := prog_1_method_3_code
def yX10_region : MethodName := ⟨RX10, "region", "(III)I"⟩
abbrev cX10_join : ByteArray := prog_1_method_4_code
def yX10_join : MethodName := ⟨RX10, "join", "(II)I"⟩
abbrev cX10_leave : ByteArray := prog_1_method_5_code
def yX10_leave : MethodName := ⟨RX10, "leave", "(II)I"⟩
abbrev cX10_quiet : ByteArray := prog_1_method_6_code
def yX10_quiet : MethodName := ⟨RX10, "quiet", "(III)I"⟩
abbrev cX10_except : ByteArray := prog_1_method_7_code
def yX10_except : MethodName := ⟨RX10, "except", "(II)I"⟩
abbrev cX10_override : ByteArray := prog_1_method_8_code
def yX10_override : MethodName := ⟨RX10, "override", "(III)I"⟩
abbrev cX10_rotaAt : ByteArray := prog_1_method_9_code
def yX10_rotaAt : MethodName := ⟨RX10, "rotaAt", "(II)I"⟩
abbrev cX10_personOf : ByteArray := prog_1_method_10_code
def yX10_personOf : MethodName := ⟨RX10, "personOf", "(II)I"⟩
abbrev cX10_alert : ByteArray := prog_1_method_11_code
def yX10_alert : MethodName := ⟨RX10, "alert", "(II)I"⟩
abbrev cX10_acknowledge : ByteArray := prog_1_method_12_code
def yX10_acknowledge : MethodName := ⟨RX10, "acknowledge", "(I)I"⟩
abbrev cX10_resolve : ByteArray := prog_1_method_13_code
def yX10_resolve : MethodName := ⟨RX10, "resolve", "(I)I"⟩
abbrev cX10_pass : ByteArray := prog_1_method_14_code
def yX10_pass : MethodName := ⟨RX10, "pass", "(I)I"⟩
abbrev cX10_set : ByteArray := prog_1_method_15_code
def yX10_set : MethodName := ⟨RX10, "set", "(II)I"⟩
abbrev cX10_incidentOf : ByteArray := prog_1_method_16_code
def yX10_incidentOf : MethodName := ⟨RX10, "incidentOf", "(II)I"⟩
abbrev cX10_count : ByteArray := prog_1_method_17_code
def yX10_count : MethodName := ⟨RX10, "count", "(I)I"⟩
abbrev cX10_onCall : ByteArray := prog_1_method_18_code
def yX10_onCall : MethodName := ⟨RX10, "onCall", "(II)I"⟩
abbrev cX10_uncovered : ByteArray := prog_1_method_19_code
def yX10_uncovered : MethodName := ⟨RX10, "uncovered", "()I"⟩
abbrev cX10_later : ByteArray := prog_1_method_20_code
def yX10_later : MethodName := ⟨RX10, "later", "(III)I"⟩
abbrev cX10_acknowledgeBits : ByteArray := prog_1_method_21_code
def yX10_acknowledgeBits : MethodName := ⟨RX10, "acknowledgeBits", "()I"⟩
abbrev cX10_unownedBits : ByteArray := prog_1_method_22_code
def yX10_unownedBits : MethodName := ⟨RX10, "unownedBits", "()I"⟩
abbrev cX10_undo : ByteArray := prog_1_method_23_code
def yX10_undo : MethodName := ⟨RX10, "undo", "()I"⟩
abbrev cX10_type : ByteArray := prog_1_method_24_code
def yX10_type : MethodName := ⟨RX10, "type", "(I)I"⟩
abbrev cX10_clearText : ByteArray := prog_1_method_25_code
def yX10_clearText : MethodName := ⟨RX10, "clearText", "()I"⟩
abbrev cX10_fault : ByteArray := prog_1_method_26_code
def yX10_fault : MethodName := ⟨RX10, "fault", "(I)I"⟩
abbrev cX10_play : ByteArray := prog_1_method_27_code
def yX10_play : MethodName := ⟨RX10, "play", "()I"⟩
abbrev cX10_settled : ByteArray := prog_1_method_28_code
def yX10_settled : MethodName := ⟨RX10, "settled", "(I)I"⟩
abbrev cX10_hourOfDay : ByteArray := prog_1_method_29_code
def yX10_hourOfDay : MethodName := ⟨RX10, "hourOfDay", "(I)I"⟩
abbrev cX10_bitsOf : ByteArray := prog_1_method_30_code
def yX10_bitsOf : MethodName := ⟨RX10, "bitsOf", "(F)I"⟩
def RX11 : String := "PageRotasModel"
def TX11 : u_T := fun k => match k with
  | 0 => ("PageRotasModel", "s", "[I", true)
  | 1 => ("PageRotasModel", "begun", "[I", true)
  | 2 => ("PageRotasModel", "aside", "[I", true)
  | 3 => ("PageRotasModel", "past", "[I", true)
  | 4 => ("PageRotasModel", "states", "I", false)
  | 5 => ("PageRotasModel", "text", "[I", true)
  | 6 => ("PageRotasModel", "length", "I", false)
  | 7 => ("PageRotasModel", "at", "I", false)
  | 8 => ("PageRotasModel", "isForm", "Z", false)
  | 9 => ("PageRotasModel", "reason", "I", false)
  | _ => ("PageRotasModel", "numbers", "[I", true)
def tyX11 : Nat → FieldType := fun k => match k with
  | 0 => .array .int
  | 1 => .array .int
  | 2 => .array .int
  | 3 => .array .int
  | 4 => .int
  | 5 => .array .int
  | 6 => .int
  | 7 => .int
  | 8 => .boolean
  | 9 => .int
  | _ => .array .int
abbrev wsX110 : List Cond := u_ws RX11 TX11 11
theorem nmX11 : ∀ a, a < 11 → ∀ b, b < 11 → a ≠ b → (TX11 a).2.1 ≠ (TX11 b).2.1 := by decide +kernel
theorem tyX11_ok : ∀ k, k < 11 → parseFieldDescriptor (TX11 k).2.2.1 = some (tyX11 k) := by decide +kernel
abbrev cX11_init : ByteArray := prog_13_method_1_code
def yX11_init : MethodName := ⟨RX11, "<init>", "()V"⟩
abbrev cX11_in : ByteArray := prog_13_method_3_code
def yX11_in : MethodName := ⟨RX11, "in", "(III)Z"⟩
abbrev cX11_begins : ByteArray := prog_13_method_4_code
def yX11_begins : MethodName := ⟨RX11, "begins", "()V"⟩
abbrev cX11_returns : ByteArray := prog_13_method_5_code
def yX11_returns : MethodName := ⟨RX11, "returns", "()V"⟩
abbrev cX11_acted : ByteArray := prog_13_method_6_code
def yX11_acted : MethodName := ⟨RX11, "acted", "(I)I"⟩
abbrev cX11_isPerson : ByteArray := prog_13_method_7_code
def yX11_isPerson : MethodName := ⟨RX11, "isPerson", "(I)Z"⟩
abbrev cX11_isRegion : ByteArray := prog_13_method_8_code
def yX11_isRegion : MethodName := ⟨RX11, "isRegion", "(I)Z"⟩
abbrev cX11_incidentAt : ByteArray := prog_13_method_9_code
def yX11_incidentAt : MethodName := ⟨RX11, "incidentAt", "(I)I"⟩
abbrev cX11_isIncident : ByteArray := prog_13_method_10_code
def yX11_isIncident : MethodName := ⟨RX11, "isIncident", "(I)Z"⟩
abbrev cX11_ofWho : ByteArray := prog_13_method_11_code
def yX11_ofWho : MethodName := ⟨RX11, "ofWho", "(II)I"⟩
abbrev cX11_ofWhere : ByteArray := prog_13_method_12_code
def yX11_ofWhere : MethodName := ⟨RX11, "ofWhere", "(II)I"⟩
abbrev cX11_isWithin : ByteArray := prog_13_method_13_code
def yX11_isWithin : MethodName := ⟨RX11, "isWithin", "(III)Z"⟩
abbrev cX11_covers : ByteArray := prog_13_method_14_code
def yX11_covers : MethodName := ⟨RX11, "covers", "(II)Z"⟩
abbrev cX11_regionAt : ByteArray := prog_13_method_15_code
def yX11_regionAt : MethodName := ⟨RX11, "regionAt", "(I)I"⟩
abbrev cX11_personAt : ByteArray := prog_13_method_16_code
def yX11_personAt : MethodName := ⟨RX11, "personAt", "(II)I"⟩
abbrev cX11_isQuiet : ByteArray := prog_13_method_17_code
def yX11_isQuiet : MethodName := ⟨RX11, "isQuiet", "(II)Z"⟩
abbrev cX11_isException : ByteArray := prog_13_method_18_code
def yX11_isException : MethodName := ⟨RX11, "isException", "(II)Z"⟩
abbrev cX11_pages : ByteArray := prog_13_method_19_code
def yX11_pages : MethodName := ⟨RX11, "pages", "(I)V"⟩
abbrev cX11_minuteOf : ByteArray := prog_13_method_20_code
def yX11_minuteOf : MethodName := ⟨RX11, "minuteOf", "(I)V"⟩
abbrev cX11_minute : ByteArray := prog_13_method_21_code
def yX11_minute : MethodName := ⟨RX11, "minute", "()V"⟩
abbrev cX11_comes : ByteArray := prog_13_method_22_code
def yX11_comes : MethodName := ⟨RX11, "comes", "()I"⟩
abbrev cX11_lies : ByteArray := prog_13_method_23_code
def yX11_lies : MethodName := ⟨RX11, "lies", "(III)I"⟩
abbrev cX11_placeIn : ByteArray := prog_13_method_24_code
def yX11_placeIn : MethodName := ⟨RX11, "placeIn", "(II)I"⟩
abbrev cX11_joins : ByteArray := prog_13_method_25_code
def yX11_joins : MethodName := ⟨RX11, "joins", "(II)I"⟩
abbrev cX11_leaves : ByteArray := prog_13_method_26_code
def yX11_leaves : MethodName := ⟨RX11, "leaves", "(II)I"⟩
abbrev cX11_rests : ByteArray := prog_13_method_27_code
def yX11_rests : MethodName := ⟨RX11, "rests", "(III)I"⟩
abbrev cX11_ones : ByteArray := prog_13_method_28_code
def yX11_ones : MethodName := ⟨RX11, "ones", "(I)I"⟩
abbrev cX11_excepts : ByteArray := prog_13_method_29_code
def yX11_excepts : MethodName := ⟨RX11, "excepts", "(II)I"⟩
abbrev cX11_inForce : ByteArray := prog_13_method_30_code
def yX11_inForce : MethodName := ⟨RX11, "inForce", "()I"⟩
abbrev cX11_clears : ByteArray := prog_13_method_31_code
def yX11_clears : MethodName := ⟨RX11, "clears", "()V"⟩
abbrev cX11_overrides : ByteArray := prog_13_method_32_code
def yX11_overrides : MethodName := ⟨RX11, "overrides", "(III)I"⟩
abbrev cX11_foldsInto : ByteArray := prog_13_method_33_code
def yX11_foldsInto : MethodName := ⟨RX11, "foldsInto", "(I)I"⟩
abbrev cX11_lowestFree : ByteArray := prog_13_method_34_code
def yX11_lowestFree : MethodName := ⟨RX11, "lowestFree", "()I"⟩
abbrev cX11_opens : ByteArray := prog_13_method_35_code
def yX11_opens : MethodName := ⟨RX11, "opens", "(II)I"⟩
abbrev cX11_alerts : ByteArray := prog_13_method_36_code
def yX11_alerts : MethodName := ⟨RX11, "alerts", "(II)I"⟩
abbrev cX11_acknowledges : ByteArray := prog_13_method_37_code
def yX11_acknowledges : MethodName := ⟨RX11, "acknowledges", "(I)I"⟩
abbrev cX11_resolves : ByteArray := prog_13_method_38_code
def yX11_resolves : MethodName := ⟨RX11, "resolves", "(I)I"⟩
abbrev cX11_passes : ByteArray := prog_13_method_39_code
def yX11_passes : MethodName := ⟨RX11, "passes", "(I)I"⟩
abbrev cX11_sets : ByteArray := prog_13_method_40_code
def yX11_sets : MethodName := ⟨RX11, "sets", "(II)I"⟩
abbrev cX11_person : ByteArray := prog_13_method_41_code
def yX11_person : MethodName := ⟨RX11, "person", "()I"⟩
abbrev cX11_region : ByteArray := prog_13_method_42_code
def yX11_region : MethodName := ⟨RX11, "region", "(III)I"⟩
abbrev cX11_join : ByteArray := prog_13_method_43_code
def yX11_join : MethodName := ⟨RX11, "join", "(II)I"⟩
abbrev cX11_leave : ByteArray := prog_13_method_44_code
def yX11_leave : MethodName := ⟨RX11, "leave", "(II)I"⟩
abbrev cX11_quiet : ByteArray := prog_13_method_45_code
def yX11_quiet : MethodName := ⟨RX11, "quiet", "(III)I"⟩
abbrev cX11_except : ByteArray := prog_13_method_46_code
def yX11_except : MethodName := ⟨RX11, "except", "(II)I"⟩
abbrev cX11_override : ByteArray := prog_13_method_47_code
def yX11_override : MethodName := ⟨RX11, "override", "(III)I"⟩
abbrev cX11_alert : ByteArray := prog_13_method_48_code
def yX11_alert : MethodName := ⟨RX11, "alert", "(II)I"⟩
abbrev cX11_acknowledge : ByteArray := prog_13_method_49_code
def yX11_acknowledge : MethodName := ⟨RX11, "acknowledge", "(I)I"⟩
abbrev cX11_resolve : ByteArray := prog_13_method_50_code
def yX11_resolve : MethodName := ⟨RX11, "resolve", "(I)I"⟩
abbrev cX11_pass : ByteArray := prog_13_method_51_code
def yX11_pass : MethodName := ⟨RX11, "pass", "(I)I"⟩
abbrev cX11_set : ByteArray := prog_13_method_52_code
def yX11_set : MethodName := ⟨RX11, "set", "(II)I"⟩
abbrev cX11_rotaAt : ByteArray := prog_13_method_53_code
def yX11_rotaAt : MethodName := ⟨RX11, "rotaAt", "(II)I"⟩
abbrev cX11_ownedBy : ByteArray := prog_13_method_54_code
def yX11_ownedBy : MethodName := ⟨RX11, "ownedBy", "(IZ)I"⟩
abbrev cX11_rotasOf : ByteArray := prog_13_method_55_code
def yX11_rotasOf : MethodName := ⟨RX11, "rotasOf", "(I)I"⟩
abbrev cX11_personOf : ByteArray := prog_13_method_56_code
def yX11_personOf : MethodName := ⟨RX11, "personOf", "(II)I"⟩
abbrev cX11_incidentOf : ByteArray := prog_13_method_57_code
def yX11_incidentOf : MethodName := ⟨RX11, "incidentOf", "(II)I"⟩
abbrev cX11_openOnes : ByteArray := prog_13_method_58_code
def yX11_openOnes : MethodName := ⟨RX11, "openOnes", "(I)I"⟩
abbrev cX11_count : ByteArray := prog_13_method_59_code
def yX11_count : MethodName := ⟨RX11, "count", "(I)I"⟩
abbrev cX11_onCall : ByteArray := prog_13_method_60_code
def yX11_onCall : MethodName := ⟨RX11, "onCall", "(II)I"⟩
abbrev cX11_uncovered : ByteArray := prog_13_method_61_code
def yX11_uncovered : MethodName := ⟨RX11, "uncovered", "()I"⟩
abbrev cX11_later : ByteArray := prog_13_method_62_code
def yX11_later : MethodName := ⟨RX11, "later", "(III)I"⟩
abbrev cX11_acknowledgeBits : ByteArray := prog_13_method_63_code
def yX11_acknowledgeBits : MethodName := ⟨RX11, "acknowledgeBits", "()I"⟩
abbrev cX11_unownedBits : ByteArray := prog_13_method_64_code
def yX11_unownedBits : MethodName := ⟨RX11, "unownedBits", "()I"⟩
abbrev cX11_undo : ByteArray := prog_13_method_65_code
def yX11_undo : MethodName := ⟨RX11, "undo", "()I"⟩
abbrev cX11_type : ByteArray := prog_13_method_66_code
def yX11_type : MethodName := ⟨RX11, "type", "(I)I"⟩
abbrev cX11_clearText : ByteArray := prog_13_method_67_code
def yX11_clearText : MethodName := ⟨RX11, "clearText", "()I"⟩
abbrev cX11_here : ByteArray := prog_13_method_68_code
def yX11_here : MethodName := ⟨RX11, "here", "()I"⟩
abbrev cX11_must : ByteArray := prog_13_method_69_code
def yX11_must : MethodName := ⟨RX11, "must", "(I)V"⟩
abbrev cX11_readNumber : ByteArray := prog_13_method_70_code
def yX11_readNumber : MethodName := ⟨RX11, "readNumber", "(I)I"⟩
abbrev cX11_command : ByteArray := prog_13_method_71_code
def yX11_command : MethodName := ⟨RX11, "command", "()I"⟩
abbrev cX11_does : ByteArray := prog_13_method_72_code
def yX11_does : MethodName := ⟨RX11, "does", "()I"⟩
abbrev cX11_fault : ByteArray := prog_13_method_73_code
def yX11_fault : MethodName := ⟨RX11, "fault", "(I)I"⟩
abbrev cX11_play : ByteArray := prog_13_method_74_code
def yX11_play : MethodName := ⟨RX11, "play", "()I"⟩
def RJxf58ca : String := "java/lang/Float"
def TJxf58ca : u_T := fun k => match k with
  | _ => ("", "", "", false)
def tyJxf58ca : Nat → FieldType := fun k => match k with
  | _ => .int
abbrev wsJxf58ca0 : List Cond := u_ws RJxf58ca TJxf58ca 0
theorem nmJxf58ca : ∀ a, a < 0 → ∀ b, b < 0 → a ≠ b → (TJxf58ca a).2.1 ≠ (TJxf58ca b).2.1 := by decide +kernel
theorem tyJxf58ca_ok : ∀ k, k < 0 → parseFieldDescriptor (TJxf58ca k).2.2.1 = some (tyJxf58ca k) := by decide +kernel
abbrev cJxf58ca_isNaN_12338 : ByteArray := prog_14_method_6_code
def yJxf58ca_isNaN_12338 : MethodName := ⟨RJxf58ca, "isNaN", "(F)Z"⟩
abbrev cJxf58ca_floatToIntBits_5c35a : ByteArray := prog_14_method_24_code
def yJxf58ca_floatToIntBits_5c35a : MethodName := ⟨RJxf58ca, "floatToIntBits", "(F)I"⟩
def RJ6 : String := "java/lang/Integer"
def TJ6 : u_T := fun k => match k with
  | _ => ("", "", "", false)
def tyJ6 : Nat → FieldType := fun k => match k with
  | _ => .int
abbrev wsJ60 : List Cond := u_ws RJ6 TJ6 0
theorem nmJ6 : ∀ a, a < 0 → ∀ b, b < 0 → a ≠ b → (TJ6 a).2.1 ≠ (TJ6 b).2.1 := by decide +kernel
theorem tyJ6_ok : ∀ k, k < 0 → parseFieldDescriptor (TJ6 k).2.2.1 = some (tyJ6 k) := by decide +kernel
abbrev cJ6_bitCount_0f7a4 : ByteArray := prog_15_method_49_code
def yJ6_bitCount_0f7a4 : MethodName := ⟨RJ6, "bitCount", "(I)I"⟩
def RJ9 : String := "java/lang/Math"
def TJ9 : u_T := fun k => match k with
  | _ => ("", "", "", false)
def tyJ9 : Nat → FieldType := fun k => match k with
  | _ => .int
abbrev wsJ90 : List Cond := u_ws RJ9 TJ9 0
theorem nmJ9 : ∀ a, a < 0 → ∀ b, b < 0 → a ≠ b → (TJ9 a).2.1 ≠ (TJ9 b).2.1 := by decide +kernel
theorem tyJ9_ok : ∀ k, k < 0 → parseFieldDescriptor (TJ9 k).2.2.1 = some (tyJ9 k) := by decide +kernel
abbrev cJ9_min_7cf53 : ByteArray := prog_16_method_69_code
def yJ9_min_7cf53 : MethodName := ⟨RJ9, "min", "(II)I"⟩
def RJ10 : String := "java/lang/System"
def TJ10 : u_T := fun k => match k with
  | _ => ("", "", "", false)
def tyJ10 : Nat → FieldType := fun k => match k with
  | _ => .int
abbrev wsJ100 : List Cond := u_ws RJ10 TJ10 0
theorem nmJ10 : ∀ a, a < 0 → ∀ b, b < 0 → a ≠ b → (TJ10 a).2.1 ≠ (TJ10 b).2.1 := by decide +kernel
theorem tyJ10_ok : ∀ k, k < 0 → parseFieldDescriptor (TJ10 k).2.2.1 = some (tyJ10 k) := by decide +kernel
def RL : String := "PageRotasLaw"
abbrev cL_law : ByteArray := code
def yL_law : MethodName := ⟨RL, "law", "([I)Z"⟩
def wsL_law_r1 : List Cond := [Cond.classLink RL 7 RX10, Cond.instantiable RX10 4, Cond.initialized RX10, Cond.classLink RL 10 RX11, Cond.instantiable RX11 11, Cond.initialized RX11, Cond.methodLink RL 9 yX10_init, Cond.instanceMethod yX10_init, Cond.code yX10_init cX10_init 1 none, Cond.methodLink RX10 1 objectInit, Cond.instanceMethod objectInit, Cond.code objectInit ⟨#[0xb1]⟩ 1 none, Cond.classLink RX10 7 RX1, Cond.instantiable RX1 6, Cond.initialized RX1, Cond.fieldLink RX10 10 "PageRotas" "house" "LPageRotas$House;", Cond.fieldLink RX10 16 "PageRotas" "trial" "LPageRotas$House;", Cond.classLink RX10 19 RX0, Cond.instantiable RX0 2, Cond.initialized RX0, Cond.fieldLink RX10 22 "PageRotas" "history" "LPageRotas$History;", Cond.classLink RX10 26 RX6, Cond.instantiable RX6 7, Cond.initialized RX6]
def wsL_law_r2 : List Cond := [Cond.fieldLink RX10 29 "PageRotas" "script" "LPageRotas$Script;", Cond.methodLink RX10 9 yX1_init, Cond.instanceMethod yX1_init, Cond.code yX1_init cX1_init 2 none, Cond.methodLink RX1 3 objectInit, Cond.classLink RX1 9 RX5, Cond.instantiable RX5 6, Cond.initialized RX5, Cond.fieldLink RX1 12 "PageRotas$House" "rotas" "LPageRotas$Rotas;", Cond.classLink RX1 18 RX2, Cond.fieldLink RX1 20 "PageRotas$House" "incidents" "[LPageRotas$Incident;", Cond.classLink RX1 24 RX9, Cond.instantiable RX9 10, Cond.initialized RX9, Cond.fieldLink RX1 27 "PageRotas$House" "totals" "LPageRotas$Totals;", Cond.fieldLink RX1 31 "PageRotas$House" "escalateAfter" "I", Cond.fieldLink RX1 35 "PageRotas$House" "foldWithin" "I", Cond.instantiable RX2 14, Cond.initialized RX2, Cond.methodLink RX1 11 yX5_init, Cond.instanceMethod yX5_init, Cond.code yX5_init cX5_init 2 none, Cond.methodLink RX5 3 objectInit, Cond.classLink RX5 9 RX3]
def wsL_law_r3 : List Cond := [Cond.fieldLink RX5 11 "PageRotas$Rotas" "people" "[LPageRotas$Person;", Cond.classLink RX5 17 RX4, Cond.fieldLink RX5 19 "PageRotas$Rotas" "regions" "[LPageRotas$Region;", Cond.classLink RX5 23 RX8, Cond.fieldLink RX5 25 "PageRotas$Rotas" "standIns" "[LPageRotas$StandIn;", Cond.instantiable RX3 4, Cond.initialized RX3, Cond.instantiable RX4 4, Cond.initialized RX4, Cond.instantiable RX8 3, Cond.initialized RX8, Cond.instanceMethod yX3_init, Cond.code yX3_init cX3_init 1 none, Cond.methodLink RX3 1 objectInit, Cond.classLink RX3 7 RX7, Cond.instantiable RX7 2, Cond.initialized RX7, Cond.fieldLink RX3 10 "PageRotas$Person" "quiet" "LPageRotas$Span;", Cond.instanceMethod yX7_init, Cond.code yX7_init cX7_init 1 none, Cond.methodLink RX7 3 objectInit, Cond.instanceMethod yX4_init, Cond.code yX4_init cX4_init 1 none, Cond.methodLink RX4 3 objectInit]
def wsL_law_r4 : List Cond := [Cond.classLink RX4 9 RX7, Cond.fieldLink RX4 12 "PageRotas$Region" "hours" "LPageRotas$Span;", Cond.arrayClass .int, Cond.fieldLink RX4 18 "PageRotas$Region" "rota" "[I", Cond.instanceMethod yX8_init, Cond.code yX8_init cX8_init 1 none, Cond.methodLink RX8 1 objectInit, Cond.instanceMethod yX9_init, Cond.code yX9_init cX9_init 1 none, Cond.methodLink RX9 3 objectInit, Cond.instanceMethod yX2_init, Cond.code yX2_init cX2_init 1 none, Cond.methodLink RX2 3 objectInit, Cond.methodLink RX10 21 yX0_init, Cond.instanceMethod yX0_init, Cond.code yX0_init cX0_init 2 none, Cond.methodLink RX0 3 objectInit, Cond.classLink RX0 9 RX1, Cond.fieldLink RX0 11 "PageRotas$History" "states" "[LPageRotas$House;", Cond.methodLink RX0 17 yX1_init, Cond.instanceMethod yX6_init, Cond.code yX6_init cX6_init 1 none, Cond.methodLink RX6 3 objectInit, Cond.arrayClass .char]
def wsL_law_r5 : List Cond := [Cond.fieldLink RX6 9 "PageRotas$Script" "signs" "[C", Cond.fieldLink RX6 15 "PageRotas$Script" "numbers" "[I", Cond.fieldLink RX6 19 "PageRotas$Script" "faultReason" "I", Cond.methodLink RL 12 yX11_init, Cond.instanceMethod yX11_init, Cond.code yX11_init cX11_init 1 none, Cond.methodLink RX11 1 objectInit, Cond.fieldLink RX11 7 "PageRotasModel" "s" "[I", Cond.fieldLink RX11 13 "PageRotasModel" "begun" "[I", Cond.fieldLink RX11 16 "PageRotasModel" "aside" "[I", Cond.fieldLink RX11 19 "PageRotasModel" "past" "[I", Cond.fieldLink RX11 22 "PageRotasModel" "text" "[I", Cond.fieldLink RX11 25 "PageRotasModel" "numbers" "[I", Cond.methodLink RL 13 yX10_person, Cond.instanceMethod yX10_person, Cond.selects RX10 yX10_person yX10_person, Cond.code yX10_person cX10_person 1 (some .int), Cond.fieldLink RX10 37 "PageRotas$House" "rotas" "LPageRotas$Rotas;", Cond.methodLink RX10 33 yX0_prepare, Cond.instanceMethod yX0_prepare, Cond.selects RX0 yX0_prepare yX0_prepare, Cond.code yX0_prepare cX0_prepare 2 none, Cond.fieldLink RX0 18 "PageRotas$History" "size" "I", Cond.methodLink RX0 22 yX1_copyFrom]
def wsL_law_r6 : List Cond := [Cond.instanceMethod yX1_copyFrom, Cond.selects RX1 yX1_copyFrom yX1_copyFrom, Cond.code yX1_copyFrom cX1_copyFrom 3 none, Cond.fieldLink RX1 49 "PageRotas$House" "time" "I", Cond.methodLink RX1 39 yX5_copyFrom, Cond.instanceMethod yX5_copyFrom, Cond.selects RX5 yX5_copyFrom yX5_copyFrom, Cond.code yX5_copyFrom cX5_copyFrom 3 none, Cond.fieldLink RX5 42 "PageRotas$Rotas" "peopleCount" "I", Cond.fieldLink RX5 46 "PageRotas$Rotas" "regionCount" "I", Cond.fieldLink RX5 49 "PageRotas$Rotas" "standInCount" "I", Cond.methodLink RX5 32 yX3_copyFrom, Cond.instanceMethod yX3_copyFrom, Cond.selects RX3 yX3_copyFrom yX3_copyFrom, Cond.code yX3_copyFrom cX3_copyFrom 2 none, Cond.fieldLink RX3 16 "PageRotas$Span" "from" "I", Cond.fieldLink RX3 20 "PageRotas$Span" "to" "I", Cond.fieldLink RX3 27 "PageRotas$Person" "exceptions" "I", Cond.fieldLink RX3 30 "PageRotas$Person" "pages" "I", Cond.fieldLink RX3 33 "PageRotas$Person" "resolved" "I", Cond.methodLink RX3 23 yX7_put, Cond.instanceMethod yX7_put, Cond.selects RX7 yX7_put yX7_put, Cond.code yX7_put cX7_put 3 none]
def wsL_law_r7 : List Cond := [Cond.fieldLink RX7 9 "PageRotas$Span" "from" "I", Cond.fieldLink RX7 15 "PageRotas$Span" "to" "I", Cond.methodLink RX5 36 yX4_copyFrom, Cond.instanceMethod yX4_copyFrom, Cond.selects RX4 yX4_copyFrom yX4_copyFrom, Cond.code yX4_copyFrom cX4_copyFrom 2 none, Cond.fieldLink RX4 22 "PageRotas$Span" "from" "I", Cond.fieldLink RX4 26 "PageRotas$Span" "to" "I", Cond.methodLink RX4 33 arraycopyName, Cond.native arraycopyName, Cond.static arraycopyName, Cond.initialized "java/lang/System", Cond.fieldLink RX4 39 "PageRotas$Region" "shift" "I", Cond.fieldLink RX4 42 "PageRotas$Region" "size" "I", Cond.methodLink RX4 29 yX7_put, Cond.methodLink RX5 39 yX8_copyFrom, Cond.instanceMethod yX8_copyFrom, Cond.selects RX8 yX8_copyFrom yX8_copyFrom, Cond.code yX8_copyFrom cX8_copyFrom 2 none, Cond.fieldLink RX8 7 "PageRotas$StandIn" "region" "I", Cond.fieldLink RX8 13 "PageRotas$StandIn" "person" "I", Cond.fieldLink RX8 16 "PageRotas$StandIn" "end" "I", Cond.methodLink RX1 43 yX2_copyFrom, Cond.instanceMethod yX2_copyFrom]
def wsL_law_r8 : List Cond := [Cond.selects RX2 yX2_copyFrom yX2_copyFrom, Cond.code yX2_copyFrom cX2_copyFrom 2 none, Cond.fieldLink RX2 9 "PageRotas$Incident" "open" "Z", Cond.fieldLink RX2 15 "PageRotas$Incident" "cause" "I", Cond.fieldLink RX2 19 "PageRotas$Incident" "severity" "I", Cond.fieldLink RX2 22 "PageRotas$Incident" "level" "I", Cond.fieldLink RX2 25 "PageRotas$Incident" "owner" "I", Cond.fieldLink RX2 28 "PageRotas$Incident" "region" "I", Cond.fieldLink RX2 31 "PageRotas$Incident" "pagedAt" "I", Cond.fieldLink RX2 34 "PageRotas$Incident" "acknowledged" "Z", Cond.fieldLink RX2 37 "PageRotas$Incident" "alerts" "I", Cond.fieldLink RX2 40 "PageRotas$Incident" "firstAlert" "I", Cond.fieldLink RX2 43 "PageRotas$Incident" "latestAlert" "I", Cond.fieldLink RX2 46 "PageRotas$Incident" "unowned" "I", Cond.fieldLink RX2 49 "PageRotas$Incident" "handOffs" "I", Cond.fieldLink RX2 52 "PageRotas$Incident" "escalations" "I", Cond.methodLink RX1 46 yX9_copyFrom, Cond.instanceMethod yX9_copyFrom, Cond.selects RX9 yX9_copyFrom yX9_copyFrom, Cond.code yX9_copyFrom cX9_copyFrom 2 none, Cond.fieldLink RX9 9 "PageRotas$Totals" "alerts" "I", Cond.fieldLink RX9 15 "PageRotas$Totals" "folded" "I", Cond.fieldLink RX9 18 "PageRotas$Totals" "pages" "I", Cond.fieldLink RX9 21 "PageRotas$Totals" "resolved" "I"]
def wsL_law_r9 : List Cond := [Cond.fieldLink RX9 24 "PageRotas$Totals" "handOffs" "I", Cond.fieldLink RX9 27 "PageRotas$Totals" "escalations" "I", Cond.fieldLink RX9 30 "PageRotas$Totals" "unowned" "I", Cond.fieldLink RX9 33 "PageRotas$Totals" "open" "I", Cond.fieldLink RX9 36 "PageRotas$Totals" "acknowledgements" "I", Cond.fieldLink RX9 39 "PageRotas$Totals" "minutesToAcknowledge" "I", Cond.methodLink RX10 41 yX5_addPerson, Cond.instanceMethod yX5_addPerson, Cond.selects RX5 yX5_addPerson yX5_addPerson, Cond.code yX5_addPerson cX5_addPerson 2 (some .int), Cond.methodLink RX10 47 yX10_settled, Cond.instanceMethod yX10_settled, Cond.selects RX10 yX10_settled yX10_settled, Cond.code yX10_settled cX10_settled 2 (some .int), Cond.methodLink RX10 268 yX0_keepPrepared, Cond.instanceMethod yX0_keepPrepared, Cond.selects RX0 yX0_keepPrepared yX0_keepPrepared, Cond.code yX0_keepPrepared cX0_keepPrepared 1 none, Cond.methodLink RX0 26 yX0_dropOldest, Cond.instanceMethod yX0_dropOldest, Cond.selects RX0 yX0_dropOldest yX0_dropOldest, Cond.code yX0_dropOldest cX0_dropOldest 3 none, Cond.methodLink RL 17 yX11_person, Cond.instanceMethod yX11_person]
def wsL_law_r10 : List Cond := [Cond.selects RX11 yX11_person yX11_person, Cond.code yX11_person cX11_person 1 (some .int), Cond.methodLink RX11 108 yX11_begins, Cond.instanceMethod yX11_begins, Cond.selects RX11 yX11_begins yX11_begins, Cond.code yX11_begins cX11_begins 2 none, Cond.methodLink RX11 111 yX11_comes, Cond.instanceMethod yX11_comes, Cond.selects RX11 yX11_comes yX11_comes, Cond.code yX11_comes cX11_comes 1 (some .int), Cond.methodLink RX11 114 yX11_acted, Cond.instanceMethod yX11_acted, Cond.selects RX11 yX11_acted yX11_acted, Cond.code yX11_acted cX11_acted 3 (some .int), Cond.fieldLink RX11 28 "PageRotasModel" "states" "I", Cond.methodLink RL 18 yX10_region, Cond.instanceMethod yX10_region, Cond.selects RX10 yX10_region yX10_region, Cond.code yX10_region cX10_region 4 (some .int), Cond.methodLink RX10 51 yX5_addRegion, Cond.instanceMethod yX5_addRegion, Cond.selects RX5 yX5_addRegion yX5_addRegion, Cond.code yX5_addRegion cX5_addRegion 5 (some .int), Cond.methodLink RX5 52 yX7_isHour]
def wsL_law_r11 : List Cond := [Cond.static yX7_isHour, Cond.code yX7_isHour cX7_isHour 1 (some .boolean), Cond.methodLink RX5 58 yX4_put, Cond.instanceMethod yX4_put, Cond.selects RX4 yX4_put yX4_put, Cond.code yX4_put cX4_put 4 none, Cond.methodLink RL 22 yX11_region, Cond.instanceMethod yX11_region, Cond.selects RX11 yX11_region yX11_region, Cond.code yX11_region cX11_region 4 (some .int), Cond.methodLink RX11 117 yX11_lies, Cond.instanceMethod yX11_lies, Cond.selects RX11 yX11_lies yX11_lies, Cond.code yX11_lies cX11_lies 5 (some .int), Cond.methodLink RX11 32 yX11_in, Cond.static yX11_in, Cond.code yX11_in cX11_in 3 (some .boolean), Cond.methodLink RL 23 yX10_join, Cond.instanceMethod yX10_join, Cond.selects RX10 yX10_join yX10_join, Cond.code yX10_join cX10_join 3 (some .int), Cond.methodLink RX10 55 yX5_letJoin, Cond.instanceMethod yX5_letJoin, Cond.selects RX5 yX5_letJoin yX5_letJoin]
def wsL_law_r12 : List Cond := [Cond.code yX5_letJoin cX5_letJoin 3 (some .int), Cond.methodLink RX5 62 yX5_hasRegion, Cond.instanceMethod yX5_hasRegion, Cond.selects RX5 yX5_hasRegion yX5_hasRegion, Cond.code yX5_hasRegion cX5_hasRegion 2 (some .boolean), Cond.methodLink RX5 65 yX5_hasPerson, Cond.instanceMethod yX5_hasPerson, Cond.selects RX5 yX5_hasPerson yX5_hasPerson, Cond.code yX5_hasPerson cX5_hasPerson 2 (some .boolean), Cond.methodLink RX5 68 yX4_add, Cond.instanceMethod yX4_add, Cond.selects RX4 yX4_add yX4_add, Cond.code yX4_add cX4_add 2 (some .int), Cond.methodLink RX4 49 yX4_placeOf, Cond.instanceMethod yX4_placeOf, Cond.selects RX4 yX4_placeOf yX4_placeOf, Cond.code yX4_placeOf cX4_placeOf 3 (some .int), Cond.methodLink RL 27 yX11_join, Cond.instanceMethod yX11_join, Cond.selects RX11 yX11_join yX11_join, Cond.code yX11_join cX11_join 3 (some .int), Cond.methodLink RX11 121 yX11_joins, Cond.instanceMethod yX11_joins, Cond.selects RX11 yX11_joins yX11_joins]
def wsL_law_r13 : List Cond := [Cond.code yX11_joins cX11_joins 5 (some .int), Cond.methodLink RX11 77 yX11_isRegion, Cond.instanceMethod yX11_isRegion, Cond.selects RX11 yX11_isRegion yX11_isRegion, Cond.code yX11_isRegion cX11_isRegion 2 (some .boolean), Cond.methodLink RX11 80 yX11_isPerson, Cond.instanceMethod yX11_isPerson, Cond.selects RX11 yX11_isPerson yX11_isPerson, Cond.code yX11_isPerson cX11_isPerson 2 (some .boolean), Cond.methodLink RX11 83 yX11_placeIn, Cond.instanceMethod yX11_placeIn, Cond.selects RX11 yX11_placeIn yX11_placeIn, Cond.code yX11_placeIn cX11_placeIn 5 (some .int), Cond.methodLink RX11 40 yX11_ofWhere, Cond.instanceMethod yX11_ofWhere, Cond.selects RX11 yX11_ofWhere yX11_ofWhere, Cond.code yX11_ofWhere cX11_ofWhere 3 (some .int), Cond.methodLink RL 28 yX10_leave, Cond.instanceMethod yX10_leave, Cond.selects RX10 yX10_leave yX10_leave, Cond.code yX10_leave cX10_leave 3 (some .int), Cond.methodLink RX10 59 yX5_letLeave, Cond.instanceMethod yX5_letLeave, Cond.selects RX5 yX5_letLeave yX5_letLeave]
def wsL_law_r14 : List Cond := [Cond.code yX5_letLeave cX5_letLeave 3 (some .int), Cond.methodLink RX5 72 yX4_remove, Cond.instanceMethod yX4_remove, Cond.selects RX4 yX4_remove yX4_remove, Cond.code yX4_remove cX4_remove 4 (some .int), Cond.methodLink RL 31 yX11_leave, Cond.instanceMethod yX11_leave, Cond.selects RX11 yX11_leave yX11_leave, Cond.code yX11_leave cX11_leave 3 (some .int), Cond.methodLink RX11 124 yX11_leaves, Cond.instanceMethod yX11_leaves, Cond.selects RX11 yX11_leaves yX11_leaves, Cond.code yX11_leaves cX11_leaves 6 (some .int), Cond.methodLink RL 32 yX10_quiet, Cond.instanceMethod yX10_quiet, Cond.selects RX10 yX10_quiet yX10_quiet, Cond.code yX10_quiet cX10_quiet 4 (some .int), Cond.methodLink RX10 62 yX5_putQuietHours, Cond.instanceMethod yX5_putQuietHours, Cond.selects RX5 yX5_putQuietHours yX5_putQuietHours, Cond.code yX5_putQuietHours cX5_putQuietHours 4 (some .int), Cond.fieldLink RX5 75 "PageRotas$Person" "quiet" "LPageRotas$Span;", Cond.methodLink RX5 79 yX7_put, Cond.methodLink RX5 82 yX7_hours]
def wsL_law_r15 : List Cond := [Cond.instanceMethod yX7_hours, Cond.selects RX7 yX7_hours yX7_hours, Cond.code yX7_hours cX7_hours 1 (some .int), Cond.methodLink RL 35 yX11_quiet, Cond.instanceMethod yX11_quiet, Cond.selects RX11 yX11_quiet yX11_quiet, Cond.code yX11_quiet cX11_quiet 4 (some .int), Cond.methodLink RX11 127 yX11_rests, Cond.instanceMethod yX11_rests, Cond.selects RX11 yX11_rests yX11_rests, Cond.code yX11_rests cX11_rests 5 (some .int), Cond.methodLink RL 36 yX10_except, Cond.instanceMethod yX10_except, Cond.selects RX10 yX10_except yX10_except, Cond.code yX10_except cX10_except 3 (some .int), Cond.methodLink RX10 65 yX5_turnException, Cond.instanceMethod yX5_turnException, Cond.selects RX5 yX5_turnException yX5_turnException, Cond.code yX5_turnException cX5_turnException 3 (some .int), Cond.fieldLink RX5 86 "PageRotas$Person" "exceptions" "I", Cond.methodLink RX5 89 yJ6_bitCount_0f7a4, Cond.static yJ6_bitCount_0f7a4, Cond.initialized RJ6, Cond.code yJ6_bitCount_0f7a4 cJ6_bitCount_0f7a4 1 (some .int)]
def wsL_law_r16 : List Cond := [Cond.constant RJ6 265 (1431655765), Cond.constant RJ6 266 (858993459), Cond.constant RJ6 267 (252645135), Cond.methodLink RL 39 yX11_except, Cond.instanceMethod yX11_except, Cond.selects RX11 yX11_except yX11_except, Cond.code yX11_except cX11_except 3 (some .int), Cond.methodLink RX11 130 yX11_excepts, Cond.instanceMethod yX11_excepts, Cond.selects RX11 yX11_excepts yX11_excepts, Cond.code yX11_excepts cX11_excepts 3 (some .int), Cond.methodLink RX11 54 yX11_ofWho, Cond.instanceMethod yX11_ofWho, Cond.selects RX11 yX11_ofWho yX11_ofWho, Cond.code yX11_ofWho cX11_ofWho 3 (some .int), Cond.methodLink RX11 86 yX11_ones, Cond.static yX11_ones, Cond.code yX11_ones cX11_ones 3 (some .int), Cond.methodLink RL 40 yX10_override, Cond.instanceMethod yX10_override, Cond.selects RX10 yX10_override yX10_override, Cond.code yX10_override cX10_override 4 (some .int), Cond.methodLink RX10 68 yX1_putStandIn, Cond.instanceMethod yX1_putStandIn]
def wsL_law_r17 : List Cond := [Cond.selects RX1 yX1_putStandIn yX1_putStandIn, Cond.code yX1_putStandIn cX1_putStandIn 4 (some .int), Cond.methodLink RX1 62 yX5_hasRegion, Cond.methodLink RX1 66 yX5_hasPerson, Cond.methodLink RX1 69 yX5_addStandIn, Cond.instanceMethod yX5_addStandIn, Cond.selects RX5 yX5_addStandIn yX5_addStandIn, Cond.code yX5_addStandIn cX5_addStandIn 6 (some .int), Cond.fieldLink RX5 104 "PageRotas$StandIn" "region" "I", Cond.fieldLink RX5 107 "PageRotas$StandIn" "person" "I", Cond.fieldLink RX5 110 "PageRotas$StandIn" "end" "I", Cond.methodLink RX5 100 yX5_dropEndedStandIns, Cond.instanceMethod yX5_dropEndedStandIns, Cond.selects RX5 yX5_dropEndedStandIns yX5_dropEndedStandIns, Cond.code yX5_dropEndedStandIns cX5_dropEndedStandIns 4 none, Cond.methodLink RX5 97 yX8_isInForce, Cond.instanceMethod yX8_isInForce, Cond.selects RX8 yX8_isInForce yX8_isInForce, Cond.code yX8_isInForce cX8_isInForce 2 (some .boolean), Cond.methodLink RL 43 yX11_override, Cond.instanceMethod yX11_override, Cond.selects RX11 yX11_override yX11_override, Cond.code yX11_override cX11_override 4 (some .int), Cond.methodLink RX11 133 yX11_overrides]
def wsL_law_r18 : List Cond := [Cond.instanceMethod yX11_overrides, Cond.selects RX11 yX11_overrides yX11_overrides, Cond.code yX11_overrides cX11_overrides 5 (some .int), Cond.methodLink RX11 89 yX11_inForce, Cond.instanceMethod yX11_inForce, Cond.selects RX11 yX11_inForce yX11_inForce, Cond.code yX11_inForce cX11_inForce 3 (some .int), Cond.methodLink RX11 93 yX11_clears, Cond.instanceMethod yX11_clears, Cond.selects RX11 yX11_clears yX11_clears, Cond.code yX11_clears cX11_clears 4 none, Cond.methodLink RL 44 yX10_rotaAt, Cond.instanceMethod yX10_rotaAt, Cond.selects RX10 yX10_rotaAt yX10_rotaAt, Cond.code yX10_rotaAt cX10_rotaAt 4 (some .int), Cond.fieldLink RX10 75 "PageRotas$Rotas" "regions" "[LPageRotas$Region;", Cond.methodLink RX10 71 yX5_hasRegion, Cond.methodLink RX10 79 yX4_memberAt, Cond.instanceMethod yX4_memberAt, Cond.selects RX4 yX4_memberAt yX4_memberAt, Cond.code yX4_memberAt cX4_memberAt 2 (some .int), Cond.methodLink RL 47 yX11_rotaAt, Cond.instanceMethod yX11_rotaAt, Cond.selects RX11 yX11_rotaAt yX11_rotaAt]
def wsL_law_r19 : List Cond := [Cond.code yX11_rotaAt cX11_rotaAt 3 (some .int), Cond.methodLink RL 48 yX10_personOf, Cond.instanceMethod yX10_personOf, Cond.selects RX10 yX10_personOf yX10_personOf, Cond.code yX10_personOf cX10_personOf 4 (some .int), Cond.fieldLink RX10 87 "PageRotas$Rotas" "people" "[LPageRotas$Person;", Cond.fieldLink RX10 91 "PageRotas$Person" "pages" "I", Cond.fieldLink RX10 101 "PageRotas$Person" "resolved" "I", Cond.fieldLink RX10 107 "PageRotas$Person" "quiet" "LPageRotas$Span;", Cond.fieldLink RX10 111 "PageRotas$House" "time" "I", Cond.fieldLink RX10 122 "PageRotas$Person" "exceptions" "I", Cond.methodLink RX10 84 yX5_hasPerson, Cond.methodLink RX10 97 yX1_ownedBy, Cond.instanceMethod yX1_ownedBy, Cond.selects RX1 yX1_ownedBy yX1_ownedBy, Cond.code yX1_ownedBy cX1_ownedBy 6 (some .int), Cond.fieldLink RX1 52 "PageRotas$Incident" "open" "Z", Cond.fieldLink RX1 59 "PageRotas$Incident" "owner" "I", Cond.fieldLink RX1 56 "PageRotas$Incident" "acknowledged" "Z", Cond.methodLink RX10 104 yX5_regionsOf, Cond.instanceMethod yX5_regionsOf, Cond.selects RX5 yX5_regionsOf yX5_regionsOf, Cond.code yX5_regionsOf cX5_regionsOf 4 (some .int), Cond.methodLink RX5 94 yX4_placeOf]
def wsL_law_r20 : List Cond := [Cond.methodLink RX10 114 yX10_hourOfDay, Cond.static yX10_hourOfDay, Cond.code yX10_hourOfDay cX10_hourOfDay 1 (some .int), Cond.methodLink RX10 117 yX7_has, Cond.instanceMethod yX7_has, Cond.selects RX7 yX7_has yX7_has, Cond.code yX7_has cX7_has 2 (some .boolean), Cond.methodLink RL 51 yX11_personOf, Cond.instanceMethod yX11_personOf, Cond.selects RX11 yX11_personOf yX11_personOf, Cond.code yX11_personOf cX11_personOf 3 (some .int), Cond.methodLink RX11 151 yX11_ownedBy, Cond.instanceMethod yX11_ownedBy, Cond.selects RX11 yX11_ownedBy yX11_ownedBy, Cond.code yX11_ownedBy cX11_ownedBy 6 (some .int), Cond.methodLink RX11 36 yX11_incidentAt, Cond.static yX11_incidentAt, Cond.code yX11_incidentAt cX11_incidentAt 1 (some .int), Cond.methodLink RX11 70 yX11_isIncident, Cond.instanceMethod yX11_isIncident, Cond.selects RX11 yX11_isIncident yX11_isIncident, Cond.code yX11_isIncident cX11_isIncident 2 (some .boolean), Cond.methodLink RX11 155 yX11_rotasOf, Cond.instanceMethod yX11_rotasOf]
def wsL_law_r21 : List Cond := [Cond.selects RX11 yX11_rotasOf yX11_rotasOf, Cond.code yX11_rotasOf cX11_rotasOf 4 (some .int), Cond.methodLink RX11 60 yX11_isQuiet, Cond.instanceMethod yX11_isQuiet, Cond.selects RX11 yX11_isQuiet yX11_isQuiet, Cond.code yX11_isQuiet cX11_isQuiet 3 (some .boolean), Cond.methodLink RX11 44 yX11_isWithin, Cond.static yX11_isWithin, Cond.code yX11_isWithin cX11_isWithin 3 (some .boolean), Cond.methodLink RL 52 yX10_alert, Cond.instanceMethod yX10_alert, Cond.selects RX10 yX10_alert yX10_alert, Cond.code yX10_alert cX10_alert 3 (some .int), Cond.methodLink RX10 125 yX1_takeAlert, Cond.instanceMethod yX1_takeAlert, Cond.selects RX1 yX1_takeAlert yX1_takeAlert, Cond.code yX1_takeAlert cX1_takeAlert 5 (some .int), Cond.fieldLink RX1 73 "PageRotas$Incident" "cause" "I", Cond.fieldLink RX1 76 "PageRotas$Incident" "latestAlert" "I", Cond.fieldLink RX1 95 "PageRotas$Totals" "alerts" "I", Cond.methodLink RX1 79 yX1_fold, Cond.instanceMethod yX1_fold, Cond.selects RX1 yX1_fold yX1_fold, Cond.code yX1_fold cX1_fold 3 (some .boolean)]
def wsL_law_r22 : List Cond := [Cond.fieldLink RX1 98 "PageRotas$Incident" "alerts" "I", Cond.fieldLink RX1 99 "PageRotas$Totals" "folded" "I", Cond.fieldLink RX1 102 "PageRotas$Incident" "severity" "I", Cond.methodLink RX1 83 yX5_regionAt, Cond.instanceMethod yX5_regionAt, Cond.selects RX5 yX5_regionAt yX5_regionAt, Cond.code yX5_regionAt cX5_regionAt 4 (some .int), Cond.methodLink RX5 116 yX4_covers, Cond.instanceMethod yX4_covers, Cond.selects RX4 yX4_covers yX4_covers, Cond.code yX4_covers cX4_covers 2 (some .boolean), Cond.methodLink RX4 45 yX7_has, Cond.methodLink RX1 87 yX1_page, Cond.instanceMethod yX1_page, Cond.selects RX1 yX1_page yX1_page, Cond.code yX1_page cX1_page 5 none, Cond.fieldLink RX1 105 "PageRotas$Incident" "region" "I", Cond.fieldLink RX1 108 "PageRotas$Incident" "level" "I", Cond.fieldLink RX1 115 "PageRotas$Rotas" "people" "[LPageRotas$Person;", Cond.fieldLink RX1 128 "PageRotas$Incident" "pagedAt" "I", Cond.fieldLink RX1 131 "PageRotas$Person" "pages" "I", Cond.fieldLink RX1 134 "PageRotas$Totals" "pages" "I", Cond.methodLink RX1 111 yX5_personAt, Cond.instanceMethod yX5_personAt]
def wsL_law_r23 : List Cond := [Cond.selects RX5 yX5_personAt yX5_personAt, Cond.code yX5_personAt cX5_personAt 5 (some .int), Cond.methodLink RX5 119 Lib.Math.min.name, Cond.static Lib.Math.min.name, Cond.initialized "java/lang/Math", Cond.code Lib.Math.min.name Lib.Math.min.code 2 (some .int), Cond.fieldLink RX5 125 "PageRotas$Region" "shift" "I", Cond.fieldLink RX5 128 "PageRotas$Region" "size" "I", Cond.methodLink RX5 131 yX4_memberAt, Cond.methodLink RX1 122 yX3_sleepsThrough, Cond.instanceMethod yX3_sleepsThrough, Cond.selects RX3 yX3_sleepsThrough yX3_sleepsThrough, Cond.code yX3_sleepsThrough cX3_sleepsThrough 4 (some .boolean), Cond.methodLink RX3 36 yX7_has, Cond.methodLink RX1 91 yX2_makeNew, Cond.instanceMethod yX2_makeNew, Cond.selects RX2 yX2_makeNew yX2_makeNew, Cond.code yX2_makeNew cX2_makeNew 4 none, Cond.methodLink RL 55 yX11_alert, Cond.instanceMethod yX11_alert, Cond.selects RX11 yX11_alert yX11_alert, Cond.code yX11_alert cX11_alert 3 (some .int), Cond.methodLink RX11 136 yX11_alerts, Cond.instanceMethod yX11_alerts]
def wsL_law_r24 : List Cond := [Cond.selects RX11 yX11_alerts yX11_alerts, Cond.code yX11_alerts cX11_alerts 6 (some .int), Cond.methodLink RX11 99 yX11_foldsInto, Cond.instanceMethod yX11_foldsInto, Cond.selects RX11 yX11_foldsInto yX11_foldsInto, Cond.code yX11_foldsInto cX11_foldsInto 4 (some .int), Cond.methodLink RX11 102 yX11_opens, Cond.instanceMethod yX11_opens, Cond.selects RX11 yX11_opens yX11_opens, Cond.code yX11_opens cX11_opens 6 (some .int), Cond.methodLink RX11 96 yX11_lowestFree, Cond.instanceMethod yX11_lowestFree, Cond.selects RX11 yX11_lowestFree yX11_lowestFree, Cond.code yX11_lowestFree cX11_lowestFree 3 (some .int), Cond.methodLink RX11 66 yX11_pages, Cond.instanceMethod yX11_pages, Cond.selects RX11 yX11_pages yX11_pages, Cond.code yX11_pages cX11_pages 5 none, Cond.methodLink RX11 57 yX11_personAt, Cond.instanceMethod yX11_personAt, Cond.selects RX11 yX11_personAt yX11_personAt, Cond.code yX11_personAt cX11_personAt 7 (some .int), Cond.methodLink RX11 51 yX11_regionAt, Cond.instanceMethod yX11_regionAt]
def wsL_law_r25 : List Cond := [Cond.selects RX11 yX11_regionAt yX11_regionAt, Cond.code yX11_regionAt cX11_regionAt 4 (some .int), Cond.methodLink RX11 47 yX11_covers, Cond.instanceMethod yX11_covers, Cond.selects RX11 yX11_covers yX11_covers, Cond.code yX11_covers cX11_covers 3 (some .boolean), Cond.methodLink RX11 63 yX11_isException, Cond.instanceMethod yX11_isException, Cond.selects RX11 yX11_isException yX11_isException, Cond.code yX11_isException cX11_isException 3 (some .boolean), Cond.methodLink RL 56 yX10_acknowledge, Cond.instanceMethod yX10_acknowledge, Cond.selects RX10 yX10_acknowledge yX10_acknowledge, Cond.code yX10_acknowledge cX10_acknowledge 2 (some .int), Cond.methodLink RX10 128 yX1_takeAcknowledgement, Cond.instanceMethod yX1_takeAcknowledgement, Cond.selects RX1 yX1_takeAcknowledgement yX1_takeAcknowledgement, Cond.code yX1_takeAcknowledgement cX1_takeAcknowledgement 4 (some .int), Cond.fieldLink RX1 138 "PageRotas$Totals" "acknowledgements" "I", Cond.fieldLink RX1 141 "PageRotas$Totals" "minutesToAcknowledge" "I", Cond.methodLink RX1 135 yX1_isOpen, Cond.instanceMethod yX1_isOpen, Cond.selects RX1 yX1_isOpen yX1_isOpen, Cond.code yX1_isOpen cX1_isOpen 2 (some .boolean)]
def wsL_law_r26 : List Cond := [Cond.methodLink RL 60 yX11_acknowledge, Cond.instanceMethod yX11_acknowledge, Cond.selects RX11 yX11_acknowledge yX11_acknowledge, Cond.code yX11_acknowledge cX11_acknowledge 2 (some .int), Cond.methodLink RX11 139 yX11_acknowledges, Cond.instanceMethod yX11_acknowledges, Cond.selects RX11 yX11_acknowledges yX11_acknowledges, Cond.code yX11_acknowledges cX11_acknowledges 4 (some .int), Cond.methodLink RL 61 yX10_resolve, Cond.instanceMethod yX10_resolve, Cond.selects RX10 yX10_resolve yX10_resolve, Cond.code yX10_resolve cX10_resolve 2 (some .int), Cond.methodLink RX10 131 yX1_close, Cond.instanceMethod yX1_close, Cond.selects RX1 yX1_close yX1_close, Cond.code yX1_close cX1_close 3 (some .int), Cond.fieldLink RX1 144 "PageRotas$Totals" "resolved" "I", Cond.fieldLink RX1 147 "PageRotas$Person" "resolved" "I", Cond.fieldLink RX1 148 "PageRotas$Incident" "firstAlert" "I", Cond.methodLink RL 64 yX11_resolve, Cond.instanceMethod yX11_resolve, Cond.selects RX11 yX11_resolve yX11_resolve, Cond.code yX11_resolve cX11_resolve 2 (some .int), Cond.methodLink RX11 142 yX11_resolves]
def wsL_law_r27 : List Cond := [Cond.instanceMethod yX11_resolves, Cond.selects RX11 yX11_resolves yX11_resolves, Cond.code yX11_resolves cX11_resolves 4 (some .int), Cond.methodLink RL 65 yX10_pass, Cond.instanceMethod yX10_pass, Cond.selects RX10 yX10_pass yX10_pass, Cond.code yX10_pass cX10_pass 2 (some .int), Cond.methodLink RX10 134 yX1_letPass, Cond.instanceMethod yX1_letPass, Cond.selects RX1 yX1_letPass yX1_letPass, Cond.code yX1_letPass cX1_letPass 6 (some .int), Cond.methodLink RX1 151 yX1_age, Cond.instanceMethod yX1_age, Cond.selects RX1 yX1_age yX1_age, Cond.code yX1_age cX1_age 3 (some .boolean), Cond.fieldLink RX1 154 "PageRotas$Totals" "open" "I", Cond.fieldLink RX1 156 "PageRotas$Incident" "unowned" "I", Cond.fieldLink RX1 159 "PageRotas$Totals" "unowned" "I", Cond.fieldLink RX1 160 "PageRotas$Incident" "handOffs" "I", Cond.fieldLink RX1 163 "PageRotas$Totals" "handOffs" "I", Cond.fieldLink RX1 164 "PageRotas$Incident" "escalations" "I", Cond.fieldLink RX1 167 "PageRotas$Totals" "escalations" "I", Cond.methodLink RL 68 yX11_pass, Cond.instanceMethod yX11_pass]
def wsL_law_r28 : List Cond := [Cond.selects RX11 yX11_pass yX11_pass, Cond.code yX11_pass cX11_pass 2 (some .int), Cond.methodLink RX11 145 yX11_passes, Cond.instanceMethod yX11_passes, Cond.selects RX11 yX11_passes yX11_passes, Cond.code yX11_passes cX11_passes 4 (some .int), Cond.methodLink RX11 105 yX11_minute, Cond.instanceMethod yX11_minute, Cond.selects RX11 yX11_minute yX11_minute, Cond.code yX11_minute cX11_minute 2 none, Cond.methodLink RX11 74 yX11_minuteOf, Cond.instanceMethod yX11_minuteOf, Cond.selects RX11 yX11_minuteOf yX11_minuteOf, Cond.code yX11_minuteOf cX11_minuteOf 5 none, Cond.methodLink RL 69 yX10_set, Cond.instanceMethod yX10_set, Cond.selects RX10 yX10_set yX10_set, Cond.code yX10_set cX10_set 3 (some .int), Cond.methodLink RX10 137 yX1_putSetting, Cond.instanceMethod yX1_putSetting, Cond.selects RX1 yX1_putSetting yX1_putSetting, Cond.code yX1_putSetting cX1_putSetting 4 (some .int), Cond.methodLink RL 72 yX11_set, Cond.instanceMethod yX11_set]
def wsL_law_r29 : List Cond := [Cond.selects RX11 yX11_set yX11_set, Cond.code yX11_set cX11_set 3 (some .int), Cond.methodLink RX11 148 yX11_sets, Cond.instanceMethod yX11_sets, Cond.selects RX11 yX11_sets yX11_sets, Cond.code yX11_sets cX11_sets 4 (some .int), Cond.methodLink RL 73 yX10_incidentOf, Cond.instanceMethod yX10_incidentOf, Cond.selects RX10 yX10_incidentOf yX10_incidentOf, Cond.code yX10_incidentOf cX10_incidentOf 4 (some .int), Cond.fieldLink RX10 143 "PageRotas$House" "incidents" "[LPageRotas$Incident;", Cond.fieldLink RX10 147 "PageRotas$Incident" "cause" "I", Cond.fieldLink RX10 152 "PageRotas$Incident" "severity" "I", Cond.fieldLink RX10 155 "PageRotas$Incident" "level" "I", Cond.fieldLink RX10 158 "PageRotas$Incident" "owner" "I", Cond.fieldLink RX10 161 "PageRotas$Incident" "acknowledged" "Z", Cond.fieldLink RX10 165 "PageRotas$Incident" "alerts" "I", Cond.fieldLink RX10 168 "PageRotas$Incident" "firstAlert" "I", Cond.fieldLink RX10 171 "PageRotas$Incident" "latestAlert" "I", Cond.fieldLink RX10 174 "PageRotas$Incident" "unowned" "I", Cond.fieldLink RX10 177 "PageRotas$Incident" "pagedAt" "I", Cond.fieldLink RX10 180 "PageRotas$Incident" "handOffs" "I", Cond.fieldLink RX10 183 "PageRotas$Incident" "escalations" "I", Cond.methodLink RX10 140 yX1_isOpen]
def wsL_law_r30 : List Cond := [Cond.methodLink RL 76 yX11_incidentOf, Cond.instanceMethod yX11_incidentOf, Cond.selects RX11 yX11_incidentOf yX11_incidentOf, Cond.code yX11_incidentOf cX11_incidentOf 4 (some .int), Cond.methodLink RL 77 yX10_count, Cond.instanceMethod yX10_count, Cond.selects RX10 yX10_count yX10_count, Cond.code yX10_count cX10_count 2 (some .int), Cond.fieldLink RX10 186 "PageRotas$Rotas" "peopleCount" "I", Cond.fieldLink RX10 189 "PageRotas$Rotas" "regionCount" "I", Cond.fieldLink RX10 201 "PageRotas$History" "size" "I", Cond.fieldLink RX10 204 "PageRotas$Script" "length" "I", Cond.fieldLink RX10 207 "PageRotas$House" "escalateAfter" "I", Cond.fieldLink RX10 210 "PageRotas$House" "foldWithin" "I", Cond.fieldLink RX10 213 "PageRotas$House" "totals" "LPageRotas$Totals;", Cond.methodLink RX10 192 yX1_openIncidents, Cond.instanceMethod yX1_openIncidents, Cond.selects RX1 yX1_openIncidents yX1_openIncidents, Cond.code yX1_openIncidents cX1_openIncidents 3 (some .int), Cond.methodLink RX10 195 yX1_acknowledgedIncidents, Cond.instanceMethod yX1_acknowledgedIncidents, Cond.selects RX1 yX1_acknowledgedIncidents yX1_acknowledgedIncidents, Cond.code yX1_acknowledgedIncidents cX1_acknowledgedIncidents 3 (some .int), Cond.methodLink RX10 198 yX5_standInsAt]
def wsL_law_r31 : List Cond := [Cond.instanceMethod yX5_standInsAt, Cond.selects RX5 yX5_standInsAt yX5_standInsAt, Cond.code yX5_standInsAt cX5_standInsAt 4 (some .int), Cond.methodLink RX10 217 yX9_numbered, Cond.instanceMethod yX9_numbered, Cond.selects RX9 yX9_numbered yX9_numbered, Cond.code yX9_numbered cX9_numbered 2 (some .int), Cond.methodLink RL 80 yX11_count, Cond.instanceMethod yX11_count, Cond.selects RX11 yX11_count yX11_count, Cond.code yX11_count cX11_count 2 (some .int), Cond.fieldLink RX11 161 "PageRotasModel" "length" "I", Cond.methodLink RX11 158 yX11_openOnes, Cond.instanceMethod yX11_openOnes, Cond.selects RX11 yX11_openOnes yX11_openOnes, Cond.code yX11_openOnes cX11_openOnes 5 (some .int), Cond.methodLink RL 81 yX10_onCall, Cond.instanceMethod yX10_onCall, Cond.selects RX10 yX10_onCall yX10_onCall, Cond.code yX10_onCall cX10_onCall 6 (some .int), Cond.methodLink RX10 222 yX5_regionAt, Cond.methodLink RX10 225 yX5_personAt, Cond.methodLink RL 84 yX11_onCall, Cond.instanceMethod yX11_onCall]
def wsL_law_r32 : List Cond := [Cond.selects RX11 yX11_onCall yX11_onCall, Cond.code yX11_onCall cX11_onCall 5 (some .int), Cond.methodLink RL 85 yX10_uncovered, Cond.instanceMethod yX10_uncovered, Cond.selects RX10 yX10_uncovered yX10_uncovered, Cond.code yX10_uncovered cX10_uncovered 3 (some .int), Cond.methodLink RL 88 yX11_uncovered, Cond.instanceMethod yX11_uncovered, Cond.selects RX11 yX11_uncovered yX11_uncovered, Cond.code yX11_uncovered cX11_uncovered 3 (some .int), Cond.methodLink RL 89 yX10_later, Cond.instanceMethod yX10_later, Cond.selects RX10 yX10_later yX10_later, Cond.code yX10_later cX10_later 5 (some .int), Cond.methodLink RX10 228 yX1_copyFrom, Cond.methodLink RX10 231 yX1_follow, Cond.instanceMethod yX1_follow, Cond.selects RX1 yX1_follow yX1_follow, Cond.code yX1_follow cX1_follow 5 none, Cond.methodLink RL 92 yX11_later, Cond.instanceMethod yX11_later, Cond.selects RX11 yX11_later yX11_later, Cond.code yX11_later cX11_later 7 (some .int), Cond.methodLink RL 93 yX10_acknowledgeBits]
def wsL_law_r33 : List Cond := [Cond.instanceMethod yX10_acknowledgeBits, Cond.selects RX10 yX10_acknowledgeBits yX10_acknowledgeBits, Cond.code yX10_acknowledgeBits cX10_acknowledgeBits 2 (some .int), Cond.fieldLink RX10 235 "PageRotas$Totals" "acknowledgements" "I", Cond.fieldLink RX10 238 "PageRotas$Totals" "minutesToAcknowledge" "I", Cond.methodLink RX10 241 yX10_bitsOf, Cond.static yX10_bitsOf, Cond.code yX10_bitsOf cX10_bitsOf 3 (some .int), Cond.constantFloat RX10 271 (1056964608), Cond.constantFloat RX10 272 (1258291200), Cond.methodLink RL 96 yX11_acknowledgeBits, Cond.instanceMethod yX11_acknowledgeBits, Cond.selects RX11 yX11_acknowledgeBits yX11_acknowledgeBits, Cond.code yX11_acknowledgeBits cX11_acknowledgeBits 3 (some .int), Cond.methodLink RX11 164 yJxf58ca_floatToIntBits_5c35a, Cond.static yJxf58ca_floatToIntBits_5c35a, Cond.initialized RJxf58ca, Cond.code yJxf58ca_floatToIntBits_5c35a cJxf58ca_floatToIntBits_5c35a 1 (some .int), Cond.methodLink RJxf58ca 74 ⟨"java/lang/Float", "floatToRawIntBits", "(F)I"⟩, Cond.native ⟨"java/lang/Float", "floatToRawIntBits", "(F)I"⟩, Cond.static ⟨"java/lang/Float", "floatToRawIntBits", "(F)I"⟩, Cond.initialized "java/lang/Float", Cond.constant RJxf58ca 77 (2143289344), Cond.methodLink RJxf58ca 59 yJxf58ca_isNaN_12338]
def wsL_law_r34 : List Cond := [Cond.static yJxf58ca_isNaN_12338, Cond.code yJxf58ca_isNaN_12338 cJxf58ca_isNaN_12338 1 (some .boolean), Cond.methodLink RL 97 yX10_unownedBits, Cond.instanceMethod yX10_unownedBits, Cond.selects RX10 yX10_unownedBits yX10_unownedBits, Cond.code yX10_unownedBits cX10_unownedBits 2 (some .int), Cond.fieldLink RX10 245 "PageRotas$Totals" "open" "I", Cond.fieldLink RX10 248 "PageRotas$Totals" "unowned" "I", Cond.methodLink RL 100 yX11_unownedBits, Cond.instanceMethod yX11_unownedBits, Cond.selects RX11 yX11_unownedBits yX11_unownedBits, Cond.code yX11_unownedBits cX11_unownedBits 6 (some .int), Cond.methodLink RL 101 yX10_undo, Cond.instanceMethod yX10_undo, Cond.selects RX10 yX10_undo yX10_undo, Cond.code yX10_undo cX10_undo 1 (some .int), Cond.methodLink RX10 249 yX0_restore, Cond.instanceMethod yX0_restore, Cond.selects RX0 yX0_restore yX0_restore, Cond.code yX0_restore cX0_restore 2 none, Cond.methodLink RL 104 yX11_undo, Cond.instanceMethod yX11_undo, Cond.selects RX11 yX11_undo yX11_undo, Cond.code yX11_undo cX11_undo 2 (some .int)]
def wsL_law_r35 : List Cond := [Cond.methodLink RL 105 yX10_type, Cond.instanceMethod yX10_type, Cond.selects RX10 yX10_type yX10_type, Cond.code yX10_type cX10_type 2 (some .int), Cond.methodLink RX10 252 yX6_append, Cond.instanceMethod yX6_append, Cond.selects RX6 yX6_append yX6_append, Cond.code yX6_append cX6_append 2 (some .int), Cond.fieldLink RX6 23 "PageRotas$Script" "length" "I", Cond.methodLink RL 108 yX11_type, Cond.instanceMethod yX11_type, Cond.selects RX11 yX11_type yX11_type, Cond.code yX11_type cX11_type 2 (some .int), Cond.methodLink RL 109 yX10_clearText, Cond.instanceMethod yX10_clearText, Cond.selects RX10 yX10_clearText yX10_clearText, Cond.code yX10_clearText cX10_clearText 2 (some .int), Cond.methodLink RL 112 yX11_clearText, Cond.instanceMethod yX11_clearText, Cond.selects RX11 yX11_clearText yX11_clearText, Cond.code yX11_clearText cX11_clearText 2 (some .int), Cond.methodLink RL 113 yX10_fault, Cond.instanceMethod yX10_fault, Cond.selects RX10 yX10_fault yX10_fault]
def wsL_law_r36 : List Cond := [Cond.code yX10_fault cX10_fault 2 (some .int), Cond.fieldLink RX10 259 "PageRotas$Script" "faultReason" "I", Cond.fieldLink RX10 262 "PageRotas$Script" "faultAt" "I", Cond.methodLink RX10 256 yX6_perform, Cond.instanceMethod yX6_perform, Cond.selects RX6 yX6_perform yX6_perform, Cond.code yX6_perform cX6_perform 5 none, Cond.fieldLink RX6 26 "PageRotas$Script" "commands" "I", Cond.fieldLink RX6 40 "PageRotas$Script" "faultAt" "I", Cond.methodLink RX6 29 yX6_readCommand, Cond.instanceMethod yX6_readCommand, Cond.selects RX6 yX6_readCommand yX6_readCommand, Cond.code yX6_readCommand cX6_readCommand 5 (some .int), Cond.fieldLink RX6 43 "PageRotas$Script" "verb" "I", Cond.methodLink RX6 65 yX6_signAt, Cond.instanceMethod yX6_signAt, Cond.selects RX6 yX6_signAt yX6_signAt, Cond.code yX6_signAt cX6_signAt 2 (some .char), Cond.methodLink RX6 69 yX6_numbersAfter, Cond.static yX6_numbersAfter, Cond.code yX6_numbersAfter cX6_numbersAfter 1 (some .int), Cond.methodLink RX6 72 yX6_readNumber, Cond.instanceMethod yX6_readNumber, Cond.selects RX6 yX6_readNumber yX6_readNumber]
def wsL_law_r37 : List Cond := [Cond.code yX6_readNumber cX6_readNumber 6 (some .int), Cond.methodLink RX6 76 yX6_isDigit, Cond.static yX6_isDigit, Cond.code yX6_isDigit cX6_isDigit 1 (some .boolean), Cond.methodLink RX6 33 yX6_obey, Cond.instanceMethod yX6_obey, Cond.selects RX6 yX6_obey yX6_obey, Cond.code yX6_obey cX6_obey 2 (some .int), Cond.methodLink RX6 46 yX1_takeAlert, Cond.methodLink RX6 52 yX1_takeAcknowledgement, Cond.methodLink RX6 55 yX1_close, Cond.methodLink RX6 58 yX1_putStandIn, Cond.methodLink RX6 62 yX1_letPass, Cond.methodLink RX6 37 yX6_reasonOf, Cond.static yX6_reasonOf, Cond.code yX6_reasonOf cX6_reasonOf 1 (some .int), Cond.methodLink RL 116 yX11_fault, Cond.instanceMethod yX11_fault, Cond.selects RX11 yX11_fault yX11_fault, Cond.code yX11_fault cX11_fault 3 (some .int), Cond.fieldLink RX11 189 "PageRotasModel" "reason" "I", Cond.methodLink RX11 192 yX11_does, Cond.instanceMethod yX11_does, Cond.selects RX11 yX11_does yX11_does]
def wsL_law_r38 : List Cond := [Cond.code yX11_does cX11_does 4 (some .int), Cond.fieldLink RX11 170 "PageRotasModel" "at" "I", Cond.fieldLink RX11 173 "PageRotasModel" "isForm" "Z", Cond.methodLink RX11 186 yX11_command, Cond.instanceMethod yX11_command, Cond.selects RX11 yX11_command yX11_command, Cond.code yX11_command cX11_command 4 (some .int), Cond.methodLink RX11 177 yX11_here, Cond.instanceMethod yX11_here, Cond.selects RX11 yX11_here yX11_here, Cond.code yX11_here cX11_here 1 (some .int), Cond.methodLink RX11 183 yX11_readNumber, Cond.instanceMethod yX11_readNumber, Cond.selects RX11 yX11_readNumber yX11_readNumber, Cond.code yX11_readNumber cX11_readNumber 4 (some .int), Cond.methodLink RX11 180 yX11_must, Cond.instanceMethod yX11_must, Cond.selects RX11 yX11_must yX11_must, Cond.code yX11_must cX11_must 2 none, Cond.methodLink RX11 195 yX11_returns, Cond.instanceMethod yX11_returns, Cond.selects RX11 yX11_returns yX11_returns, Cond.code yX11_returns cX11_returns 2 none, Cond.methodLink RL 117 yX10_play]
def wsL_law_r39 : List Cond := [Cond.instanceMethod yX10_play, Cond.selects RX10 yX10_play yX10_play, Cond.code yX10_play cX10_play 1 (some .int), Cond.fieldLink RX10 265 "PageRotas$Script" "commands" "I", Cond.methodLink RL 120 yX11_play, Cond.instanceMethod yX11_play, Cond.selects RX11 yX11_play yX11_play, Cond.code yX11_play cX11_play 2 (some .int)]
def wsL_law : List Cond := (wsL_law_r1 ++ (wsL_law_r2 ++ (wsL_law_r3 ++ (wsL_law_r4 ++ (wsL_law_r5 ++ (wsL_law_r6 ++ (wsL_law_r7 ++ (wsL_law_r8 ++ (wsL_law_r9 ++ (wsL_law_r10 ++ (wsL_law_r11 ++ (wsL_law_r12 ++ (wsL_law_r13 ++ (wsL_law_r14 ++ (wsL_law_r15 ++ (wsL_law_r16 ++ (wsL_law_r17 ++ (wsL_law_r18 ++ (wsL_law_r19 ++ (wsL_law_r20 ++ (wsL_law_r21 ++ (wsL_law_r22 ++ (wsL_law_r23 ++ (wsL_law_r24 ++ (wsL_law_r25 ++ (wsL_law_r26 ++ (wsL_law_r27 ++ (wsL_law_r28 ++ (wsL_law_r29 ++ (wsL_law_r30 ++ (wsL_law_r31 ++ (wsL_law_r32 ++ (wsL_law_r33 ++ (wsL_law_r34 ++ (wsL_law_r35 ++ (wsL_law_r36 ++ (wsL_law_r37 ++ (wsL_law_r38 ++ wsL_law_r39)))))))))))))))))))))))))))))))))))))) ++ wsX100 ++ wsX110 ++ wsX10 ++ wsX00 ++ wsX60 ++ wsX50 ++ wsX90 ++ wsX20 ++ wsX30 ++ wsX40 ++ wsX80 ++ wsX70 ++ ([] : List Cond)
abbrev vwCl : List vw_C := [(RX0, TX0, 2), (RX1, TX1, 6), (RX2, TX2, 14), (RX3, TX3, 4), (RX4, TX4, 4), (RX5, TX5, 6), (RX6, TX6, 7), (RX7, TX7, 2), (RX8, TX8, 3), (RX9, TX9, 10), (RX10, TX10, 4), (RX11, TX11, 11)]
theorem kr_1 : ∀ w ∈ wsL_law_r1, w ∈ wsL_law := fun _ h => (List.mem_append_left _ (List.mem_append_left _ (List.mem_append_left _ (List.mem_append_left _ (List.mem_append_left _ (List.mem_append_left _ (List.mem_append_left _ (List.mem_append_left _ (List.mem_append_left _ (List.mem_append_left _ (List.mem_append_left _ (List.mem_append_left _ (List.mem_append_left _ (List.mem_append_left _ h))))))))))))))
theorem kr_2 : ∀ w ∈ wsL_law_r2, w ∈ wsL_law := fun _ h => (List.mem_append_left _ (List.mem_append_left _ (List.mem_append_left _ (List.mem_append_left _ (List.mem_append_left _ (List.mem_append_left _ (List.mem_append_left _ (List.mem_append_left _ (List.mem_append_left _ (List.mem_append_left _ (List.mem_append_left _ (List.mem_append_left _ (List.mem_append_left _ (List.mem_append_right _ (List.mem_append_left _ h)))))))))))))))
theorem kr_3 : ∀ w ∈ wsL_law_r3, w ∈ wsL_law := fun _ h => (List.mem_append_left _ (List.mem_append_left _ (List.mem_append_left _ (List.mem_append_left _ (List.mem_append_left _ (List.mem_append_left _ (List.mem_append_left _ (List.mem_append_left _ (List.mem_append_left _ (List.mem_append_left _ (List.mem_append_left _ (List.mem_append_left _ (List.mem_append_left _ (List.mem_append_right _ (List.mem_append_right _ (List.mem_append_left _ h))))))))))))))))
theorem kr_4 : ∀ w ∈ wsL_law_r4, w ∈ wsL_law := fun _ h => (List.mem_append_left _ (List.mem_append_left _ (List.mem_append_left _ (List.mem_append_left _ (List.mem_append_left _ (List.mem_append_left _ (List.mem_append_left _ (List.mem_append_left _ (List.mem_append_left _ (List.mem_append_left _ (List.mem_append_left _ (List.mem_append_left _ (List.mem_append_left _ (List.mem_append_right _ (List.mem_append_right _ (List.mem_append_right _ (List.mem_append_left _ h)))))))))))))))))
theorem kr_5 : ∀ w ∈ wsL_law_r5, w ∈ wsL_law := fun _ h => (List.mem_append_left _ (List.mem_append_left _ (List.mem_append_left _ (List.mem_append_left _ (List.mem_append_left _ (List.mem_append_left _ (List.mem_append_left _ (List.mem_append_left _ (List.mem_append_left _ (List.mem_append_left _ (List.mem_append_left _ (List.mem_append_left _ (List.mem_append_left _ (List.mem_append_right _ (List.mem_append_right _ (List.mem_append_right _ (List.mem_append_right _ (List.mem_append_left _ h))))))))))))))))))
theorem kr_6 : ∀ w ∈ wsL_law_r6, w ∈ wsL_law := fun _ h => (List.mem_append_left _ (List.mem_append_left _ (List.mem_append_left _ (List.mem_append_left _ (List.mem_append_left _ (List.mem_append_left _ (List.mem_append_left _ (List.mem_append_left _ (List.mem_append_left _ (List.mem_append_left _ (List.mem_append_left _ (List.mem_append_left _ (List.mem_append_left _ (List.mem_append_right _ (List.mem_append_right _ (List.mem_append_right _ (List.mem_append_right _ (List.mem_append_right _ (List.mem_append_left _ h)))))))))))))))))))
theorem kr_7 : ∀ w ∈ wsL_law_r7, w ∈ wsL_law := fun _ h => (List.mem_append_left _ (List.mem_append_left _ (List.mem_append_left _ (List.mem_append_left _ (List.mem_append_left _ (List.mem_append_left _ (List.mem_append_left _ (List.mem_append_left _ (List.mem_append_left _ (List.mem_append_left _ (List.mem_append_left _ (List.mem_append_left _ (List.mem_append_left _ (List.mem_append_right _ (List.mem_append_right _ (List.mem_append_right _ (List.mem_append_right _ (List.mem_append_right _ (List.mem_append_right _ (List.mem_append_left _ h))))))))))))))))))))
theorem kr_8 : ∀ w ∈ wsL_law_r8, w ∈ wsL_law := fun _ h => (List.mem_append_left _ (List.mem_append_left _ (List.mem_append_left _ (List.mem_append_left _ (List.mem_append_left _ (List.mem_append_left _ (List.mem_append_left _ (List.mem_append_left _ (List.mem_append_left _ (List.mem_append_left _ (List.mem_append_left _ (List.mem_append_left _ (List.mem_append_left _ (List.mem_append_right _ (List.mem_append_right _ (List.mem_append_right _ (List.mem_append_right _ (List.mem_append_right _ (List.mem_append_right _ (List.mem_append_right _ (List.mem_append_left _ h)))))))))))))))))))))
theorem kr_9 : ∀ w ∈ wsL_law_r9, w ∈ wsL_law := fun _ h => (List.mem_append_left _ (List.mem_append_left _ (List.mem_append_left _ (List.mem_append_left _ (List.mem_append_left _ (List.mem_append_left _ (List.mem_append_left _ (List.mem_append_left _ (List.mem_append_left _ (List.mem_append_left _ (List.mem_append_left _ (List.mem_append_left _ (List.mem_append_left _ (List.mem_append_right _ (List.mem_append_right _ (List.mem_append_right _ (List.mem_append_right _ (List.mem_append_right _ (List.mem_append_right _ (List.mem_append_right _ (List.mem_append_right _ (List.mem_append_left _ h))))))))))))))))))))))
theorem kr_10 : ∀ w ∈ wsL_law_r10, w ∈ wsL_law := fun _ h => (List.mem_append_left _ (List.mem_append_left _ (List.mem_append_left _ (List.mem_append_left _ (List.mem_append_left _ (List.mem_append_left _ (List.mem_append_left _ (List.mem_append_left _ (List.mem_append_left _ (List.mem_append_left _ (List.mem_append_left _ (List.mem_append_left _ (List.mem_append_left _ (List.mem_append_right _ (List.mem_append_right _ (List.mem_append_right _ (List.mem_append_right _ (List.mem_append_right _ (List.mem_append_right _ (List.mem_append_right _ (List.mem_append_right _ (List.mem_append_right _ (List.mem_append_left _ h)))))))))))))))))))))))
theorem kr_11 : ∀ w ∈ wsL_law_r11, w ∈ wsL_law := fun _ h => (List.mem_append_left _ (List.mem_append_left _ (List.mem_append_left _ (List.mem_append_left _ (List.mem_append_left _ (List.mem_append_left _ (List.mem_append_left _ (List.mem_append_left _ (List.mem_append_left _ (List.mem_append_left _ (List.mem_append_left _ (List.mem_append_left _ (List.mem_append_left _ (List.mem_append_right _ (List.mem_append_right _ (List.mem_append_right _ (List.mem_append_right _ (List.mem_append_right _ (List.mem_append_right _ (List.mem_append_right _ (List.mem_append_right _ (List.mem_append_right _ (List.mem_append_right _ (List.mem_append_left _ h))))))))))))))))))))))))
theorem kr_12 : ∀ w ∈ wsL_law_r12, w ∈ wsL_law := fun _ h => (List.mem_append_left _ (List.mem_append_left _ (List.mem_append_left _ (List.mem_append_left _ (List.mem_append_left _ (List.mem_append_left _ (List.mem_append_left _ (List.mem_append_left _ (List.mem_append_left _ (List.mem_append_left _ (List.mem_append_left _ (List.mem_append_left _ (List.mem_append_left _ (List.mem_append_right _ (List.mem_append_right _ (List.mem_append_right _ (List.mem_append_right _ (List.mem_append_right _ (List.mem_append_right _ (List.mem_append_right _ (List.mem_append_right _ (List.mem_append_right _ (List.mem_append_right _ (List.mem_append_right _ (List.mem_append_left _ h)))))))))))))))))))))))))
theorem kr_13 : ∀ w ∈ wsL_law_r13, w ∈ wsL_law := fun _ h => (List.mem_append_left _ (List.mem_append_left _ (List.mem_append_left _ (List.mem_append_left _ (List.mem_append_left _ (List.mem_append_left _ (List.mem_append_left _ (List.mem_append_left _ (List.mem_append_left _ (List.mem_append_left _ (List.mem_append_left _ (List.mem_append_left _ (List.mem_append_left _ (List.mem_append_right _ (List.mem_append_right _ (List.mem_append_right _ (List.mem_append_right _ (List.mem_append_right _ (List.mem_append_right _ (List.mem_append_right _ (List.mem_append_right _ (List.mem_append_right _ (List.mem_append_right _ (List.mem_append_right _ (List.mem_append_right _ (List.mem_append_left _ h))))))))))))))))))))))))))
theorem kr_14 : ∀ w ∈ wsL_law_r14, w ∈ wsL_law := fun _ h => (List.mem_append_left _ (List.mem_append_left _ (List.mem_append_left _ (List.mem_append_left _ (List.mem_append_left _ (List.mem_append_left _ (List.mem_append_left _ (List.mem_append_left _ (List.mem_append_left _ (List.mem_append_left _ (List.mem_append_left _ (List.mem_append_left _ (List.mem_append_left _ (List.mem_append_right _ (List.mem_append_right _ (List.mem_append_right _ (List.mem_append_right _ (List.mem_append_right _ (List.mem_append_right _ (List.mem_append_right _ (List.mem_append_right _ (List.mem_append_right _ (List.mem_append_right _ (List.mem_append_right _ (List.mem_append_right _ (List.mem_append_right _ (List.mem_append_left _ h)))))))))))))))))))))))))))
theorem kr_15 : ∀ w ∈ wsL_law_r15, w ∈ wsL_law := fun _ h => (List.mem_append_left _ (List.mem_append_left _ (List.mem_append_left _ (List.mem_append_left _ (List.mem_append_left _ (List.mem_append_left _ (List.mem_append_left _ (List.mem_append_left _ (List.mem_append_left _ (List.mem_append_left _ (List.mem_append_left _ (List.mem_append_left _ (List.mem_append_left _ (List.mem_append_right _ (List.mem_append_right _ (List.mem_append_right _ (List.mem_append_right _ (List.mem_append_right _ (List.mem_append_right _ (List.mem_append_right _ (List.mem_append_right _ (List.mem_append_right _ (List.mem_append_right _ (List.mem_append_right _ (List.mem_append_right _ (List.mem_append_right _ (List.mem_append_right _ (List.mem_append_left _ h))))))))))))))))))))))))))))
theorem kr_16 : ∀ w ∈ wsL_law_r16, w ∈ wsL_law := fun _ h => (List.mem_append_left _ (List.mem_append_left _ (List.mem_append_left _ (List.mem_append_left _ (List.mem_append_left _ (List.mem_append_left _ (List.mem_append_left _ (List.mem_append_left _ (List.mem_append_left _ (List.mem_append_left _ (List.mem_append_left _ (List.mem_append_left _ (List.mem_append_left _ (List.mem_append_right _ (List.mem_append_right _ (List.mem_append_right _ (List.mem_append_right _ (List.mem_append_right _ (List.mem_append_right _ (List.mem_append_right _ (List.mem_append_right _ (List.mem_append_right _ (List.mem_append_right _ (List.mem_append_right _ (List.mem_append_right _ (List.mem_append_right _ (List.mem_append_right _ (List.mem_append_right _ (List.mem_append_left _ h)))))))))))))))))))))))))))))
theorem kr_17 : ∀ w ∈ wsL_law_r17, w ∈ wsL_law := fun _ h => (List.mem_append_left _ (List.mem_append_left _ (List.mem_append_left _ (List.mem_append_left _ (List.mem_append_left _ (List.mem_append_left _ (List.mem_append_left _ (List.mem_append_left _ (List.mem_append_left _ (List.mem_append_left _ (List.mem_append_left _ (List.mem_append_left _ (List.mem_append_left _ (List.mem_append_right _ (List.mem_append_right _ (List.mem_append_right _ (List.mem_append_right _ (List.mem_append_right _ (List.mem_append_right _ (List.mem_append_right _ (List.mem_append_right _ (List.mem_append_right _ (List.mem_append_right _ (List.mem_append_right _ (List.mem_append_right _ (List.mem_append_right _ (List.mem_append_right _ (List.mem_append_right _ (List.mem_append_right _ (List.mem_append_left _ h))))))))))))))))))))))))))))))
theorem kr_18 : ∀ w ∈ wsL_law_r18, w ∈ wsL_law := fun _ h => (List.mem_append_left _ (List.mem_append_left _ (List.mem_append_left _ (List.mem_append_left _ (List.mem_append_left _ (List.mem_append_left _ (List.mem_append_left _ (List.mem_append_left _ (List.mem_append_left _ (List.mem_append_left _ (List.mem_append_left _ (List.mem_append_left _ (List.mem_append_left _ (List.mem_append_right _ (List.mem_append_right _ (List.mem_append_right _ (List.mem_append_right _ (List.mem_append_right _ (List.mem_append_right _ (List.mem_append_right _ (List.mem_append_right _ (List.mem_append_right _ (List.mem_append_right _ (List.mem_append_right _ (List.mem_append_right _ (List.mem_append_right _ (List.mem_append_right _ (List.mem_append_right _ (List.mem_append_right _ (List.mem_append_right _ (List.mem_append_left _ h)))))))))))))))))))))))))))))))
theorem kr_19 : ∀ w ∈ wsL_law_r19, w ∈ wsL_law := fun _ h => (List.mem_append_left _ (List.mem_append_left _ (List.mem_append_left _ (List.mem_append_left _ (List.mem_append_left _ (List.mem_append_left _ (List.mem_append_left _ (List.mem_append_left _ (List.mem_append_left _ (List.mem_append_left _ (List.mem_append_left _ (List.mem_append_left _ (List.mem_append_left _ (List.mem_append_right _ (List.mem_append_right _ (List.mem_append_right _ (List.mem_append_right _ (List.mem_append_right _ (List.mem_append_right _ (List.mem_append_right _ (List.mem_append_right _ (List.mem_append_right _ (List.mem_append_right _ (List.mem_append_right _ (List.mem_append_right _ (List.mem_append_right _ (List.mem_append_right _ (List.mem_append_right _ (List.mem_append_right _ (List.mem_append_right _ (List.mem_append_right _ (List.mem_append_left _ h))))))))))))))))))))))))))))))))
theorem kr_20 : ∀ w ∈ wsL_law_r20, w ∈ wsL_law := fun _ h => (List.mem_append_left _ (List.mem_append_left _ (List.mem_append_left _ (List.mem_append_left _ (List.mem_append_left _ (List.mem_append_left _ (List.mem_append_left _ (List.mem_append_left _ (List.mem_append_left _ (List.mem_append_left _ (List.mem_append_left _ (List.mem_append_left _ (List.mem_append_left _ (List.mem_append_right _ (List.mem_append_right _ (List.mem_append_right _ (List.mem_append_right _ (List.mem_append_right _ (List.mem_append_right _ (List.mem_append_right _ (List.mem_append_right _ (List.mem_append_right _ (List.mem_append_right _ (List.mem_append_right _ (List.mem_append_right _ (List.mem_append_right _ (List.mem_append_right _ (List.mem_append_right _ (List.mem_append_right _ (List.mem_append_right _ (List.mem_append_right _ (List.mem_append_right _ (List.mem_append_left _ h)))))))))))))))))))))))))))))))))
theorem kr_21 : ∀ w ∈ wsL_law_r21, w ∈ wsL_law := fun _ h => (List.mem_append_left _ (List.mem_append_left _ (List.mem_append_left _ (List.mem_append_left _ (List.mem_append_left _ (List.mem_append_left _ (List.mem_append_left _ (List.mem_append_left _ (List.mem_append_left _ (List.mem_append_left _ (List.mem_append_left _ (List.mem_append_left _ (List.mem_append_left _ (List.mem_append_right _ (List.mem_append_right _ (List.mem_append_right _ (List.mem_append_right _ (List.mem_append_right _ (List.mem_append_right _ (List.mem_append_right _ (List.mem_append_right _ (List.mem_append_right _ (List.mem_append_right _ (List.mem_append_right _ (List.mem_append_right _ (List.mem_append_right _ (List.mem_append_right _ (List.mem_append_right _ (List.mem_append_right _ (List.mem_append_right _ (List.mem_append_right _ (List.mem_append_right _ (List.mem_append_right _ (List.mem_append_left _ h))))))))))))))))))))))))))))))))))
theorem kr_22 : ∀ w ∈ wsL_law_r22, w ∈ wsL_law := fun _ h => (List.mem_append_left _ (List.mem_append_left _ (List.mem_append_left _ (List.mem_append_left _ (List.mem_append_left _ (List.mem_append_left _ (List.mem_append_left _ (List.mem_append_left _ (List.mem_append_left _ (List.mem_append_left _ (List.mem_append_left _ (List.mem_append_left _ (List.mem_append_left _ (List.mem_append_right _ (List.mem_append_right _ (List.mem_append_right _ (List.mem_append_right _ (List.mem_append_right _ (List.mem_append_right _ (List.mem_append_right _ (List.mem_append_right _ (List.mem_append_right _ (List.mem_append_right _ (List.mem_append_right _ (List.mem_append_right _ (List.mem_append_right _ (List.mem_append_right _ (List.mem_append_right _ (List.mem_append_right _ (List.mem_append_right _ (List.mem_append_right _ (List.mem_append_right _ (List.mem_append_right _ (List.mem_append_right _ (List.mem_append_left _ h)))))))))))))))))))))))))))))))))))
theorem kr_23 : ∀ w ∈ wsL_law_r23, w ∈ wsL_law := fun _ h => (List.mem_append_left _ (List.mem_append_left _ (List.mem_append_left _ (List.mem_append_left _ (List.mem_append_left _ (List.mem_append_left _ (List.mem_append_left _ (List.mem_append_left _ (List.mem_append_left _ (List.mem_append_left _ (List.mem_append_left _ (List.mem_append_left _ (List.mem_append_left _ (List.mem_append_right _ (List.mem_append_right _ (List.mem_append_right _ (List.mem_append_right _ (List.mem_append_right _ (List.mem_append_right _ (List.mem_append_right _ (List.mem_append_right _ (List.mem_append_right _ (List.mem_append_right _ (List.mem_append_right _ (List.mem_append_right _ (List.mem_append_right _ (List.mem_append_right _ (List.mem_append_right _ (List.mem_append_right _ (List.mem_append_right _ (List.mem_append_right _ (List.mem_append_right _ (List.mem_append_right _ (List.mem_append_right _ (List.mem_append_right _ (List.mem_append_left _ h))))))))))))))))))))))))))))))))))))
theorem kr_24 : ∀ w ∈ wsL_law_r24, w ∈ wsL_law := fun _ h => (List.mem_append_left _ (List.mem_append_left _ (List.mem_append_left _ (List.mem_append_left _ (List.mem_append_left _ (List.mem_append_left _ (List.mem_append_left _ (List.mem_append_left _ (List.mem_append_left _ (List.mem_append_left _ (List.mem_append_left _ (List.mem_append_left _ (List.mem_append_left _ (List.mem_append_right _ (List.mem_append_right _ (List.mem_append_right _ (List.mem_append_right _ (List.mem_append_right _ (List.mem_append_right _ (List.mem_append_right _ (List.mem_append_right _ (List.mem_append_right _ (List.mem_append_right _ (List.mem_append_right _ (List.mem_append_right _ (List.mem_append_right _ (List.mem_append_right _ (List.mem_append_right _ (List.mem_append_right _ (List.mem_append_right _ (List.mem_append_right _ (List.mem_append_right _ (List.mem_append_right _ (List.mem_append_right _ (List.mem_append_right _ (List.mem_append_right _ (List.mem_append_left _ h)))))))))))))))))))))))))))))))))))))
theorem kr_25 : ∀ w ∈ wsL_law_r25, w ∈ wsL_law := fun _ h => (List.mem_append_left _ (List.mem_append_left _ (List.mem_append_left _ (List.mem_append_left _ (List.mem_append_left _ (List.mem_append_left _ (List.mem_append_left _ (List.mem_append_left _ (List.mem_append_left _ (List.mem_append_left _ (List.mem_append_left _ (List.mem_append_left _ (List.mem_append_left _ (List.mem_append_right _ (List.mem_append_right _ (List.mem_append_right _ (List.mem_append_right _ (List.mem_append_right _ (List.mem_append_right _ (List.mem_append_right _ (List.mem_append_right _ (List.mem_append_right _ (List.mem_append_right _ (List.mem_append_right _ (List.mem_append_right _ (List.mem_append_right _ (List.mem_append_right _ (List.mem_append_right _ (List.mem_append_right _ (List.mem_append_right _ (List.mem_append_right _ (List.mem_append_right _ (List.mem_append_right _ (List.mem_append_right _ (List.mem_append_right _ (List.mem_append_right _ (List.mem_append_right _ (List.mem_append_left _ h))))))))))))))))))))))))))))))))))))))
theorem kr_26 : ∀ w ∈ wsL_law_r26, w ∈ wsL_law := fun _ h => (List.mem_append_left _ (List.mem_append_left _ (List.mem_append_left _ (List.mem_append_left _ (List.mem_append_left _ (List.mem_append_left _ (List.mem_append_left _ (List.mem_append_left _ (List.mem_append_left _ (List.mem_append_left _ (List.mem_append_left _ (List.mem_append_left _ (List.mem_append_left _ (List.mem_append_right _ (List.mem_append_right _ (List.mem_append_right _ (List.mem_append_right _ (List.mem_append_right _ (List.mem_append_right _ (List.mem_append_right _ (List.mem_append_right _ (List.mem_append_right _ (List.mem_append_right _ (List.mem_append_right _ (List.mem_append_right _ (List.mem_append_right _ (List.mem_append_right _ (List.mem_append_right _ (List.mem_append_right _ (List.mem_append_right _ (List.mem_append_right _ (List.mem_append_right _ (List.mem_append_right _ (List.mem_append_right _ (List.mem_append_right _ (List.mem_append_right _ (List.mem_append_right _ (List.mem_append_right _ (List.mem_append_left _ h)))))))))))))))))))))))))))))))))))))))
theorem kr_27 : ∀ w ∈ wsL_law_r27, w ∈ wsL_law := fun _ h => (List.mem_append_left _ (List.mem_append_left _ (List.mem_append_left _ (List.mem_append_left _ (List.mem_append_left _ (List.mem_append_left _ (List.mem_append_left _ (List.mem_append_left _ (List.mem_append_left _ (List.mem_append_left _ (List.mem_append_left _ (List.mem_append_left _ (List.mem_append_left _ (List.mem_append_right _ (List.mem_append_right _ (List.mem_append_right _ (List.mem_append_right _ (List.mem_append_right _ (List.mem_append_right _ (List.mem_append_right _ (List.mem_append_right _ (List.mem_append_right _ (List.mem_append_right _ (List.mem_append_right _ (List.mem_append_right _ (List.mem_append_right _ (List.mem_append_right _ (List.mem_append_right _ (List.mem_append_right _ (List.mem_append_right _ (List.mem_append_right _ (List.mem_append_right _ (List.mem_append_right _ (List.mem_append_right _ (List.mem_append_right _ (List.mem_append_right _ (List.mem_append_right _ (List.mem_append_right _ (List.mem_append_right _ (List.mem_append_left _ h))))))))))))))))))))))))))))))))))))))))
theorem kr_28 : ∀ w ∈ wsL_law_r28, w ∈ wsL_law := fun _ h => (List.mem_append_left _ (List.mem_append_left _ (List.mem_append_left _ (List.mem_append_left _ (List.mem_append_left _ (List.mem_append_left _ (List.mem_append_left _ (List.mem_append_left _ (List.mem_append_left _ (List.mem_append_left _ (List.mem_append_left _ (List.mem_append_left _ (List.mem_append_left _ (List.mem_append_right _ (List.mem_append_right _ (List.mem_append_right _ (List.mem_append_right _ (List.mem_append_right _ (List.mem_append_right _ (List.mem_append_right _ (List.mem_append_right _ (List.mem_append_right _ (List.mem_append_right _ (List.mem_append_right _ (List.mem_append_right _ (List.mem_append_right _ (List.mem_append_right _ (List.mem_append_right _ (List.mem_append_right _ (List.mem_append_right _ (List.mem_append_right _ (List.mem_append_right _ (List.mem_append_right _ (List.mem_append_right _ (List.mem_append_right _ (List.mem_append_right _ (List.mem_append_right _ (List.mem_append_right _ (List.mem_append_right _ (List.mem_append_right _ (List.mem_append_left _ h)))))))))))))))))))))))))))))))))))))))))
theorem kr_29 : ∀ w ∈ wsL_law_r29, w ∈ wsL_law := fun _ h => (List.mem_append_left _ (List.mem_append_left _ (List.mem_append_left _ (List.mem_append_left _ (List.mem_append_left _ (List.mem_append_left _ (List.mem_append_left _ (List.mem_append_left _ (List.mem_append_left _ (List.mem_append_left _ (List.mem_append_left _ (List.mem_append_left _ (List.mem_append_left _ (List.mem_append_right _ (List.mem_append_right _ (List.mem_append_right _ (List.mem_append_right _ (List.mem_append_right _ (List.mem_append_right _ (List.mem_append_right _ (List.mem_append_right _ (List.mem_append_right _ (List.mem_append_right _ (List.mem_append_right _ (List.mem_append_right _ (List.mem_append_right _ (List.mem_append_right _ (List.mem_append_right _ (List.mem_append_right _ (List.mem_append_right _ (List.mem_append_right _ (List.mem_append_right _ (List.mem_append_right _ (List.mem_append_right _ (List.mem_append_right _ (List.mem_append_right _ (List.mem_append_right _ (List.mem_append_right _ (List.mem_append_right _ (List.mem_append_right _ (List.mem_append_right _ (List.mem_append_left _ h))))))))))))))))))))))))))))))))))))))))))
theorem kr_30 : ∀ w ∈ wsL_law_r30, w ∈ wsL_law := fun _ h => (List.mem_append_left _ (List.mem_append_left _ (List.mem_append_left _ (List.mem_append_left _ (List.mem_append_left _ (List.mem_append_left _ (List.mem_append_left _ (List.mem_append_left _ (List.mem_append_left _ (List.mem_append_left _ (List.mem_append_left _ (List.mem_append_left _ (List.mem_append_left _ (List.mem_append_right _ (List.mem_append_right _ (List.mem_append_right _ (List.mem_append_right _ (List.mem_append_right _ (List.mem_append_right _ (List.mem_append_right _ (List.mem_append_right _ (List.mem_append_right _ (List.mem_append_right _ (List.mem_append_right _ (List.mem_append_right _ (List.mem_append_right _ (List.mem_append_right _ (List.mem_append_right _ (List.mem_append_right _ (List.mem_append_right _ (List.mem_append_right _ (List.mem_append_right _ (List.mem_append_right _ (List.mem_append_right _ (List.mem_append_right _ (List.mem_append_right _ (List.mem_append_right _ (List.mem_append_right _ (List.mem_append_right _ (List.mem_append_right _ (List.mem_append_right _ (List.mem_append_right _ (List.mem_append_left _ h)))))))))))))))))))))))))))))))))))))))))))
theorem kr_31 : ∀ w ∈ wsL_law_r31, w ∈ wsL_law := fun _ h => (List.mem_append_left _ (List.mem_append_left _ (List.mem_append_left _ (List.mem_append_left _ (List.mem_append_left _ (List.mem_append_left _ (List.mem_append_left _ (List.mem_append_left _ (List.mem_append_left _ (List.mem_append_left _ (List.mem_append_left _ (List.mem_append_left _ (List.mem_append_left _ (List.mem_append_right _ (List.mem_append_right _ (List.mem_append_right _ (List.mem_append_right _ (List.mem_append_right _ (List.mem_append_right _ (List.mem_append_right _ (List.mem_append_right _ (List.mem_append_right _ (List.mem_append_right _ (List.mem_append_right _ (List.mem_append_right _ (List.mem_append_right _ (List.mem_append_right _ (List.mem_append_right _ (List.mem_append_right _ (List.mem_append_right _ (List.mem_append_right _ (List.mem_append_right _ (List.mem_append_right _ (List.mem_append_right _ (List.mem_append_right _ (List.mem_append_right _ (List.mem_append_right _ (List.mem_append_right _ (List.mem_append_right _ (List.mem_append_right _ (List.mem_append_right _ (List.mem_append_right _ (List.mem_append_right _ (List.mem_append_left _ h))))))))))))))))))))))))))))))))))))))))))))
theorem kr_32 : ∀ w ∈ wsL_law_r32, w ∈ wsL_law := fun _ h => (List.mem_append_left _ (List.mem_append_left _ (List.mem_append_left _ (List.mem_append_left _ (List.mem_append_left _ (List.mem_append_left _ (List.mem_append_left _ (List.mem_append_left _ (List.mem_append_left _ (List.mem_append_left _ (List.mem_append_left _ (List.mem_append_left _ (List.mem_append_left _ (List.mem_append_right _ (List.mem_append_right _ (List.mem_append_right _ (List.mem_append_right _ (List.mem_append_right _ (List.mem_append_right _ (List.mem_append_right _ (List.mem_append_right _ (List.mem_append_right _ (List.mem_append_right _ (List.mem_append_right _ (List.mem_append_right _ (List.mem_append_right _ (List.mem_append_right _ (List.mem_append_right _ (List.mem_append_right _ (List.mem_append_right _ (List.mem_append_right _ (List.mem_append_right _ (List.mem_append_right _ (List.mem_append_right _ (List.mem_append_right _ (List.mem_append_right _ (List.mem_append_right _ (List.mem_append_right _ (List.mem_append_right _ (List.mem_append_right _ (List.mem_append_right _ (List.mem_append_right _ (List.mem_append_right _ (List.mem_append_right _ (List.mem_append_left _ h)))))))))))))))))))))))))))))))))))))))))))))
theorem kr_33 : ∀ w ∈ wsL_law_r33, w ∈ wsL_law := fun _ h => (List.mem_append_left _ (List.mem_append_left _ (List.mem_append_left _ (List.mem_append_left _ (List.mem_append_left _ (List.mem_append_left _ (List.mem_append_left _ (List.mem_append_left _ (List.mem_append_left _ (List.mem_append_left _ (List.mem_append_left _ (List.mem_append_left _ (List.mem_append_left _ (List.mem_append_right _ (List.mem_append_right _ (List.mem_append_right _ (List.mem_append_right _ (List.mem_append_right _ (List.mem_append_right _ (List.mem_append_right _ (List.mem_append_right _ (List.mem_append_right _ (List.mem_append_right _ (List.mem_append_right _ (List.mem_append_right _ (List.mem_append_right _ (List.mem_append_right _ (List.mem_append_right _ (List.mem_append_right _ (List.mem_append_right _ (List.mem_append_right _ (List.mem_append_right _ (List.mem_append_right _ (List.mem_append_right _ (List.mem_append_right _ (List.mem_append_right _ (List.mem_append_right _ (List.mem_append_right _ (List.mem_append_right _ (List.mem_append_right _ (List.mem_append_right _ (List.mem_append_right _ (List.mem_append_right _ (List.mem_append_right _ (List.mem_append_right _ (List.mem_append_left _ h))))))))))))))))))))))))))))))))))))))))))))))
theorem kr_34 : ∀ w ∈ wsL_law_r34, w ∈ wsL_law := fun _ h => (List.mem_append_left _ (List.mem_append_left _ (List.mem_append_left _ (List.mem_append_left _ (List.mem_append_left _ (List.mem_append_left _ (List.mem_append_left _ (List.mem_append_left _ (List.mem_append_left _ (List.mem_append_left _ (List.mem_append_left _ (List.mem_append_left _ (List.mem_append_left _ (List.mem_append_right _ (List.mem_append_right _ (List.mem_append_right _ (List.mem_append_right _ (List.mem_append_right _ (List.mem_append_right _ (List.mem_append_right _ (List.mem_append_right _ (List.mem_append_right _ (List.mem_append_right _ (List.mem_append_right _ (List.mem_append_right _ (List.mem_append_right _ (List.mem_append_right _ (List.mem_append_right _ (List.mem_append_right _ (List.mem_append_right _ (List.mem_append_right _ (List.mem_append_right _ (List.mem_append_right _ (List.mem_append_right _ (List.mem_append_right _ (List.mem_append_right _ (List.mem_append_right _ (List.mem_append_right _ (List.mem_append_right _ (List.mem_append_right _ (List.mem_append_right _ (List.mem_append_right _ (List.mem_append_right _ (List.mem_append_right _ (List.mem_append_right _ (List.mem_append_right _ (List.mem_append_left _ h)))))))))))))))))))))))))))))))))))))))))))))))
theorem kr_35 : ∀ w ∈ wsL_law_r35, w ∈ wsL_law := fun _ h => (List.mem_append_left _ (List.mem_append_left _ (List.mem_append_left _ (List.mem_append_left _ (List.mem_append_left _ (List.mem_append_left _ (List.mem_append_left _ (List.mem_append_left _ (List.mem_append_left _ (List.mem_append_left _ (List.mem_append_left _ (List.mem_append_left _ (List.mem_append_left _ (List.mem_append_right _ (List.mem_append_right _ (List.mem_append_right _ (List.mem_append_right _ (List.mem_append_right _ (List.mem_append_right _ (List.mem_append_right _ (List.mem_append_right _ (List.mem_append_right _ (List.mem_append_right _ (List.mem_append_right _ (List.mem_append_right _ (List.mem_append_right _ (List.mem_append_right _ (List.mem_append_right _ (List.mem_append_right _ (List.mem_append_right _ (List.mem_append_right _ (List.mem_append_right _ (List.mem_append_right _ (List.mem_append_right _ (List.mem_append_right _ (List.mem_append_right _ (List.mem_append_right _ (List.mem_append_right _ (List.mem_append_right _ (List.mem_append_right _ (List.mem_append_right _ (List.mem_append_right _ (List.mem_append_right _ (List.mem_append_right _ (List.mem_append_right _ (List.mem_append_right _ (List.mem_append_right _ (List.mem_append_left _ h))))))))))))))))))))))))))))))))))))))))))))))))
theorem kr_36 : ∀ w ∈ wsL_law_r36, w ∈ wsL_law := fun _ h => (List.mem_append_left _ (List.mem_append_left _ (List.mem_append_left _ (List.mem_append_left _ (List.mem_append_left _ (List.mem_append_left _ (List.mem_append_left _ (List.mem_append_left _ (List.mem_append_left _ (List.mem_append_left _ (List.mem_append_left _ (List.mem_append_left _ (List.mem_append_left _ (List.mem_append_right _ (List.mem_append_right _ (List.mem_append_right _ (List.mem_append_right _ (List.mem_append_right _ (List.mem_append_right _ (List.mem_append_right _ (List.mem_append_right _ (List.mem_append_right _ (List.mem_append_right _ (List.mem_append_right _ (List.mem_append_right _ (List.mem_append_right _ (List.mem_append_right _ (List.mem_append_right _ (List.mem_append_right _ (List.mem_append_right _ (List.mem_append_right _ (List.mem_append_right _ (List.mem_append_right _ (List.mem_append_right _ (List.mem_append_right _ (List.mem_append_right _ (List.mem_append_right _ (List.mem_append_right _ (List.mem_append_right _ (List.mem_append_right _ (List.mem_append_right _ (List.mem_append_right _ (List.mem_append_right _ (List.mem_append_right _ (List.mem_append_right _ (List.mem_append_right _ (List.mem_append_right _ (List.mem_append_right _ (List.mem_append_left _ h)))))))))))))))))))))))))))))))))))))))))))))))))
theorem kr_37 : ∀ w ∈ wsL_law_r37, w ∈ wsL_law := fun _ h => (List.mem_append_left _ (List.mem_append_left _ (List.mem_append_left _ (List.mem_append_left _ (List.mem_append_left _ (List.mem_append_left _ (List.mem_append_left _ (List.mem_append_left _ (List.mem_append_left _ (List.mem_append_left _ (List.mem_append_left _ (List.mem_append_left _ (List.mem_append_left _ (List.mem_append_right _ (List.mem_append_right _ (List.mem_append_right _ (List.mem_append_right _ (List.mem_append_right _ (List.mem_append_right _ (List.mem_append_right _ (List.mem_append_right _ (List.mem_append_right _ (List.mem_append_right _ (List.mem_append_right _ (List.mem_append_right _ (List.mem_append_right _ (List.mem_append_right _ (List.mem_append_right _ (List.mem_append_right _ (List.mem_append_right _ (List.mem_append_right _ (List.mem_append_right _ (List.mem_append_right _ (List.mem_append_right _ (List.mem_append_right _ (List.mem_append_right _ (List.mem_append_right _ (List.mem_append_right _ (List.mem_append_right _ (List.mem_append_right _ (List.mem_append_right _ (List.mem_append_right _ (List.mem_append_right _ (List.mem_append_right _ (List.mem_append_right _ (List.mem_append_right _ (List.mem_append_right _ (List.mem_append_right _ (List.mem_append_right _ (List.mem_append_left _ h))))))))))))))))))))))))))))))))))))))))))))))))))
theorem kr_38 : ∀ w ∈ wsL_law_r38, w ∈ wsL_law := fun _ h => (List.mem_append_left _ (List.mem_append_left _ (List.mem_append_left _ (List.mem_append_left _ (List.mem_append_left _ (List.mem_append_left _ (List.mem_append_left _ (List.mem_append_left _ (List.mem_append_left _ (List.mem_append_left _ (List.mem_append_left _ (List.mem_append_left _ (List.mem_append_left _ (List.mem_append_right _ (List.mem_append_right _ (List.mem_append_right _ (List.mem_append_right _ (List.mem_append_right _ (List.mem_append_right _ (List.mem_append_right _ (List.mem_append_right _ (List.mem_append_right _ (List.mem_append_right _ (List.mem_append_right _ (List.mem_append_right _ (List.mem_append_right _ (List.mem_append_right _ (List.mem_append_right _ (List.mem_append_right _ (List.mem_append_right _ (List.mem_append_right _ (List.mem_append_right _ (List.mem_append_right _ (List.mem_append_right _ (List.mem_append_right _ (List.mem_append_right _ (List.mem_append_right _ (List.mem_append_right _ (List.mem_append_right _ (List.mem_append_right _ (List.mem_append_right _ (List.mem_append_right _ (List.mem_append_right _ (List.mem_append_right _ (List.mem_append_right _ (List.mem_append_right _ (List.mem_append_right _ (List.mem_append_right _ (List.mem_append_right _ (List.mem_append_right _ (List.mem_append_left _ h)))))))))))))))))))))))))))))))))))))))))))))))))))
theorem kr_39 : ∀ w ∈ wsL_law_r39, w ∈ wsL_law := fun _ h => (List.mem_append_left _ (List.mem_append_left _ (List.mem_append_left _ (List.mem_append_left _ (List.mem_append_left _ (List.mem_append_left _ (List.mem_append_left _ (List.mem_append_left _ (List.mem_append_left _ (List.mem_append_left _ (List.mem_append_left _ (List.mem_append_left _ (List.mem_append_left _ (List.mem_append_right _ (List.mem_append_right _ (List.mem_append_right _ (List.mem_append_right _ (List.mem_append_right _ (List.mem_append_right _ (List.mem_append_right _ (List.mem_append_right _ (List.mem_append_right _ (List.mem_append_right _ (List.mem_append_right _ (List.mem_append_right _ (List.mem_append_right _ (List.mem_append_right _ (List.mem_append_right _ (List.mem_append_right _ (List.mem_append_right _ (List.mem_append_right _ (List.mem_append_right _ (List.mem_append_right _ (List.mem_append_right _ (List.mem_append_right _ (List.mem_append_right _ (List.mem_append_right _ (List.mem_append_right _ (List.mem_append_right _ (List.mem_append_right _ (List.mem_append_right _ (List.mem_append_right _ (List.mem_append_right _ (List.mem_append_right _ (List.mem_append_right _ (List.mem_append_right _ (List.mem_append_right _ (List.mem_append_right _ (List.mem_append_right _ (List.mem_append_right _ (List.mem_append_right _ h)))))))))))))))))))))))))))))))))))))))))))))))))))
theorem inlX10 : ∀ w ∈ wsX100, w ∈ wsL_law := fun _ h => (List.mem_append_left _ (List.mem_append_left _ (List.mem_append_left _ (List.mem_append_left _ (List.mem_append_left _ (List.mem_append_left _ (List.mem_append_left _ (List.mem_append_left _ (List.mem_append_left _ (List.mem_append_left _ (List.mem_append_left _ (List.mem_append_left _ (List.mem_append_right _ h)))))))))))))
theorem inlX11 : ∀ w ∈ wsX110, w ∈ wsL_law := fun _ h => (List.mem_append_left _ (List.mem_append_left _ (List.mem_append_left _ (List.mem_append_left _ (List.mem_append_left _ (List.mem_append_left _ (List.mem_append_left _ (List.mem_append_left _ (List.mem_append_left _ (List.mem_append_left _ (List.mem_append_left _ (List.mem_append_right _ h))))))))))))
theorem inlX1 : ∀ w ∈ wsX10, w ∈ wsL_law := fun _ h => (List.mem_append_left _ (List.mem_append_left _ (List.mem_append_left _ (List.mem_append_left _ (List.mem_append_left _ (List.mem_append_left _ (List.mem_append_left _ (List.mem_append_left _ (List.mem_append_left _ (List.mem_append_left _ (List.mem_append_right _ h)))))))))))
theorem inlX0 : ∀ w ∈ wsX00, w ∈ wsL_law := fun _ h => (List.mem_append_left _ (List.mem_append_left _ (List.mem_append_left _ (List.mem_append_left _ (List.mem_append_left _ (List.mem_append_left _ (List.mem_append_left _ (List.mem_append_left _ (List.mem_append_left _ (List.mem_append_right _ h))))))))))
theorem inlX6 : ∀ w ∈ wsX60, w ∈ wsL_law := fun _ h => (List.mem_append_left _ (List.mem_append_left _ (List.mem_append_left _ (List.mem_append_left _ (List.mem_append_left _ (List.mem_append_left _ (List.mem_append_left _ (List.mem_append_left _ (List.mem_append_right _ h)))))))))
theorem inlX5 : ∀ w ∈ wsX50, w ∈ wsL_law := fun _ h => (List.mem_append_left _ (List.mem_append_left _ (List.mem_append_left _ (List.mem_append_left _ (List.mem_append_left _ (List.mem_append_left _ (List.mem_append_left _ (List.mem_append_right _ h))))))))
theorem inlX9 : ∀ w ∈ wsX90, w ∈ wsL_law := fun _ h => (List.mem_append_left _ (List.mem_append_left _ (List.mem_append_left _ (List.mem_append_left _ (List.mem_append_left _ (List.mem_append_left _ (List.mem_append_right _ h)))))))
theorem inlX2 : ∀ w ∈ wsX20, w ∈ wsL_law := fun _ h => (List.mem_append_left _ (List.mem_append_left _ (List.mem_append_left _ (List.mem_append_left _ (List.mem_append_left _ (List.mem_append_right _ h))))))
theorem inlX3 : ∀ w ∈ wsX30, w ∈ wsL_law := fun _ h => (List.mem_append_left _ (List.mem_append_left _ (List.mem_append_left _ (List.mem_append_left _ (List.mem_append_right _ h)))))
theorem inlX4 : ∀ w ∈ wsX40, w ∈ wsL_law := fun _ h => (List.mem_append_left _ (List.mem_append_left _ (List.mem_append_left _ (List.mem_append_right _ h))))
theorem inlX8 : ∀ w ∈ wsX80, w ∈ wsL_law := fun _ h => (List.mem_append_left _ (List.mem_append_left _ (List.mem_append_right _ h)))
theorem inlX7 : ∀ w ∈ wsX70, w ∈ wsL_law := fun _ h => (List.mem_append_left _ (List.mem_append_right _ h))
theorem kw_1_0 : (Cond.classLink RL 7 RX10) ∈ wsL_law := kr_1 _ (List.mem_of_getElem? (i := 0) rfl)
theorem kw_1_1 : (Cond.instantiable RX10 4) ∈ wsL_law := kr_1 _ (List.mem_of_getElem? (i := 1) rfl)
theorem kw_1_2 : (Cond.initialized RX10) ∈ wsL_law := kr_1 _ (List.mem_of_getElem? (i := 2) rfl)
theorem kw_1_3 : (Cond.classLink RL 10 RX11) ∈ wsL_law := kr_1 _ (List.mem_of_getElem? (i := 3) rfl)
theorem kw_1_4 : (Cond.instantiable RX11 11) ∈ wsL_law := kr_1 _ (List.mem_of_getElem? (i := 4) rfl)
theorem kw_1_5 : (Cond.initialized RX11) ∈ wsL_law := kr_1 _ (List.mem_of_getElem? (i := 5) rfl)
theorem kw_1_6 : (Cond.methodLink RL 9 yX10_init) ∈ wsL_law := kr_1 _ (List.mem_of_getElem? (i := 6) rfl)
theorem kw_1_7 : (Cond.instanceMethod yX10_init) ∈ wsL_law := kr_1 _ (List.mem_of_getElem? (i := 7) rfl)
theorem kw_1_8 : (Cond.code yX10_init cX10_init 1 none) ∈ wsL_law := kr_1 _ (List.mem_of_getElem? (i := 8) rfl)
theorem kw_1_9 : (Cond.methodLink RX10 1 objectInit) ∈ wsL_law := kr_1 _ (List.mem_of_getElem? (i := 9) rfl)
theorem kw_1_10 : (Cond.instanceMethod objectInit) ∈ wsL_law := kr_1 _ (List.mem_of_getElem? (i := 10) rfl)
theorem kw_1_11 : (Cond.code objectInit ⟨#[0xb1]⟩ 1 none) ∈ wsL_law := kr_1 _ (List.mem_of_getElem? (i := 11) rfl)
theorem kw_1_12 : (Cond.classLink RX10 7 RX1) ∈ wsL_law := kr_1 _ (List.mem_of_getElem? (i := 12) rfl)
theorem kw_1_13 : (Cond.instantiable RX1 6) ∈ wsL_law := kr_1 _ (List.mem_of_getElem? (i := 13) rfl)
theorem kw_1_14 : (Cond.initialized RX1) ∈ wsL_law := kr_1 _ (List.mem_of_getElem? (i := 14) rfl)
theorem kw_1_15 : (Cond.fieldLink RX10 10 "PageRotas" "house" "LPageRotas$House;") ∈ wsL_law := kr_1 _ (List.mem_of_getElem? (i := 15) rfl)
theorem kw_1_16 : (Cond.fieldLink RX10 16 "PageRotas" "trial" "LPageRotas$House;") ∈ wsL_law := kr_1 _ (List.mem_of_getElem? (i := 16) rfl)
theorem kw_1_17 : (Cond.classLink RX10 19 RX0) ∈ wsL_law := kr_1 _ (List.mem_of_getElem? (i := 17) rfl)
theorem kw_1_18 : (Cond.instantiable RX0 2) ∈ wsL_law := kr_1 _ (List.mem_of_getElem? (i := 18) rfl)
theorem kw_1_19 : (Cond.initialized RX0) ∈ wsL_law := kr_1 _ (List.mem_of_getElem? (i := 19) rfl)
theorem kw_1_20 : (Cond.fieldLink RX10 22 "PageRotas" "history" "LPageRotas$History;") ∈ wsL_law := kr_1 _ (List.mem_of_getElem? (i := 20) rfl)
theorem kw_1_21 : (Cond.classLink RX10 26 RX6) ∈ wsL_law := kr_1 _ (List.mem_of_getElem? (i := 21) rfl)
theorem kw_1_22 : (Cond.instantiable RX6 7) ∈ wsL_law := kr_1 _ (List.mem_of_getElem? (i := 22) rfl)
theorem kw_1_23 : (Cond.initialized RX6) ∈ wsL_law := kr_1 _ (List.mem_of_getElem? (i := 23) rfl)
theorem kw_2_0 : (Cond.fieldLink RX10 29 "PageRotas" "script" "LPageRotas$Script;") ∈ wsL_law := kr_2 _ (List.mem_of_getElem? (i := 0) rfl)
theorem kw_2_1 : (Cond.methodLink RX10 9 yX1_init) ∈ wsL_law := kr_2 _ (List.mem_of_getElem? (i := 1) rfl)
theorem kw_2_2 : (Cond.instanceMethod yX1_init) ∈ wsL_law := kr_2 _ (List.mem_of_getElem? (i := 2) rfl)
theorem kw_2_3 : (Cond.code yX1_init cX1_init 2 none) ∈ wsL_law := kr_2 _ (List.mem_of_getElem? (i := 3) rfl)
theorem kw_2_4 : (Cond.methodLink RX1 3 objectInit) ∈ wsL_law := kr_2 _ (List.mem_of_getElem? (i := 4) rfl)
theorem kw_2_5 : (Cond.classLink RX1 9 RX5) ∈ wsL_law := kr_2 _ (List.mem_of_getElem? (i := 5) rfl)
theorem kw_2_6 : (Cond.instantiable RX5 6) ∈ wsL_law := kr_2 _ (List.mem_of_getElem? (i := 6) rfl)
theorem kw_2_7 : (Cond.initialized RX5) ∈ wsL_law := kr_2 _ (List.mem_of_getElem? (i := 7) rfl)
theorem kw_2_8 : (Cond.fieldLink RX1 12 "PageRotas$House" "rotas" "LPageRotas$Rotas;") ∈ wsL_law := kr_2 _ (List.mem_of_getElem? (i := 8) rfl)
theorem kw_2_9 : (Cond.classLink RX1 18 RX2) ∈ wsL_law := kr_2 _ (List.mem_of_getElem? (i := 9) rfl)
theorem kw_2_10 : (Cond.fieldLink RX1 20 "PageRotas$House" "incidents" "[LPageRotas$Incident;") ∈ wsL_law := kr_2 _ (List.mem_of_getElem? (i := 10) rfl)
theorem kw_2_11 : (Cond.classLink RX1 24 RX9) ∈ wsL_law := kr_2 _ (List.mem_of_getElem? (i := 11) rfl)
theorem kw_2_12 : (Cond.instantiable RX9 10) ∈ wsL_law := kr_2 _ (List.mem_of_getElem? (i := 12) rfl)
theorem kw_2_13 : (Cond.initialized RX9) ∈ wsL_law := kr_2 _ (List.mem_of_getElem? (i := 13) rfl)
theorem kw_2_14 : (Cond.fieldLink RX1 27 "PageRotas$House" "totals" "LPageRotas$Totals;") ∈ wsL_law := kr_2 _ (List.mem_of_getElem? (i := 14) rfl)
theorem kw_2_15 : (Cond.fieldLink RX1 31 "PageRotas$House" "escalateAfter" "I") ∈ wsL_law := kr_2 _ (List.mem_of_getElem? (i := 15) rfl)
theorem kw_2_16 : (Cond.fieldLink RX1 35 "PageRotas$House" "foldWithin" "I") ∈ wsL_law := kr_2 _ (List.mem_of_getElem? (i := 16) rfl)
theorem kw_2_17 : (Cond.instantiable RX2 14) ∈ wsL_law := kr_2 _ (List.mem_of_getElem? (i := 17) rfl)
theorem kw_2_18 : (Cond.initialized RX2) ∈ wsL_law := kr_2 _ (List.mem_of_getElem? (i := 18) rfl)
theorem kw_2_19 : (Cond.methodLink RX1 11 yX5_init) ∈ wsL_law := kr_2 _ (List.mem_of_getElem? (i := 19) rfl)
theorem kw_2_20 : (Cond.instanceMethod yX5_init) ∈ wsL_law := kr_2 _ (List.mem_of_getElem? (i := 20) rfl)
theorem kw_2_21 : (Cond.code yX5_init cX5_init 2 none) ∈ wsL_law := kr_2 _ (List.mem_of_getElem? (i := 21) rfl)
theorem kw_2_22 : (Cond.methodLink RX5 3 objectInit) ∈ wsL_law := kr_2 _ (List.mem_of_getElem? (i := 22) rfl)
theorem kw_2_23 : (Cond.classLink RX5 9 RX3) ∈ wsL_law := kr_2 _ (List.mem_of_getElem? (i := 23) rfl)
theorem kw_3_0 : (Cond.fieldLink RX5 11 "PageRotas$Rotas" "people" "[LPageRotas$Person;") ∈ wsL_law := kr_3 _ (List.mem_of_getElem? (i := 0) rfl)
theorem kw_3_1 : (Cond.classLink RX5 17 RX4) ∈ wsL_law := kr_3 _ (List.mem_of_getElem? (i := 1) rfl)
theorem kw_3_2 : (Cond.fieldLink RX5 19 "PageRotas$Rotas" "regions" "[LPageRotas$Region;") ∈ wsL_law := kr_3 _ (List.mem_of_getElem? (i := 2) rfl)
theorem kw_3_3 : (Cond.classLink RX5 23 RX8) ∈ wsL_law := kr_3 _ (List.mem_of_getElem? (i := 3) rfl)
theorem kw_3_4 : (Cond.fieldLink RX5 25 "PageRotas$Rotas" "standIns" "[LPageRotas$StandIn;") ∈ wsL_law := kr_3 _ (List.mem_of_getElem? (i := 4) rfl)
theorem kw_3_5 : (Cond.instantiable RX3 4) ∈ wsL_law := kr_3 _ (List.mem_of_getElem? (i := 5) rfl)
theorem kw_3_6 : (Cond.initialized RX3) ∈ wsL_law := kr_3 _ (List.mem_of_getElem? (i := 6) rfl)
theorem kw_3_7 : (Cond.instantiable RX4 4) ∈ wsL_law := kr_3 _ (List.mem_of_getElem? (i := 7) rfl)
theorem kw_3_8 : (Cond.initialized RX4) ∈ wsL_law := kr_3 _ (List.mem_of_getElem? (i := 8) rfl)
theorem kw_3_9 : (Cond.instantiable RX8 3) ∈ wsL_law := kr_3 _ (List.mem_of_getElem? (i := 9) rfl)
theorem kw_3_10 : (Cond.initialized RX8) ∈ wsL_law := kr_3 _ (List.mem_of_getElem? (i := 10) rfl)
theorem kw_3_11 : (Cond.instanceMethod yX3_init) ∈ wsL_law := kr_3 _ (List.mem_of_getElem? (i := 11) rfl)
theorem kw_3_12 : (Cond.code yX3_init cX3_init 1 none) ∈ wsL_law := kr_3 _ (List.mem_of_getElem? (i := 12) rfl)
theorem kw_3_13 : (Cond.methodLink RX3 1 objectInit) ∈ wsL_law := kr_3 _ (List.mem_of_getElem? (i := 13) rfl)
theorem kw_3_14 : (Cond.classLink RX3 7 RX7) ∈ wsL_law := kr_3 _ (List.mem_of_getElem? (i := 14) rfl)
theorem kw_3_15 : (Cond.instantiable RX7 2) ∈ wsL_law := kr_3 _ (List.mem_of_getElem? (i := 15) rfl)
theorem kw_3_16 : (Cond.initialized RX7) ∈ wsL_law := kr_3 _ (List.mem_of_getElem? (i := 16) rfl)
theorem kw_3_17 : (Cond.fieldLink RX3 10 "PageRotas$Person" "quiet" "LPageRotas$Span;") ∈ wsL_law := kr_3 _ (List.mem_of_getElem? (i := 17) rfl)
theorem kw_3_18 : (Cond.instanceMethod yX7_init) ∈ wsL_law := kr_3 _ (List.mem_of_getElem? (i := 18) rfl)
theorem kw_3_19 : (Cond.code yX7_init cX7_init 1 none) ∈ wsL_law := kr_3 _ (List.mem_of_getElem? (i := 19) rfl)
theorem kw_3_20 : (Cond.methodLink RX7 3 objectInit) ∈ wsL_law := kr_3 _ (List.mem_of_getElem? (i := 20) rfl)
theorem kw_3_21 : (Cond.instanceMethod yX4_init) ∈ wsL_law := kr_3 _ (List.mem_of_getElem? (i := 21) rfl)
theorem kw_3_22 : (Cond.code yX4_init cX4_init 1 none) ∈ wsL_law := kr_3 _ (List.mem_of_getElem? (i := 22) rfl)
theorem kw_3_23 : (Cond.methodLink RX4 3 objectInit) ∈ wsL_law := kr_3 _ (List.mem_of_getElem? (i := 23) rfl)
theorem kw_4_0 : (Cond.classLink RX4 9 RX7) ∈ wsL_law := kr_4 _ (List.mem_of_getElem? (i := 0) rfl)
theorem kw_4_1 : (Cond.fieldLink RX4 12 "PageRotas$Region" "hours" "LPageRotas$Span;") ∈ wsL_law := kr_4 _ (List.mem_of_getElem? (i := 1) rfl)
theorem kw_4_2 : (Cond.arrayClass .int) ∈ wsL_law := kr_4 _ (List.mem_of_getElem? (i := 2) rfl)
theorem kw_4_3 : (Cond.fieldLink RX4 18 "PageRotas$Region" "rota" "[I") ∈ wsL_law := kr_4 _ (List.mem_of_getElem? (i := 3) rfl)
theorem kw_4_4 : (Cond.instanceMethod yX8_init) ∈ wsL_law := kr_4 _ (List.mem_of_getElem? (i := 4) rfl)
theorem kw_4_5 : (Cond.code yX8_init cX8_init 1 none) ∈ wsL_law := kr_4 _ (List.mem_of_getElem? (i := 5) rfl)
theorem kw_4_6 : (Cond.methodLink RX8 1 objectInit) ∈ wsL_law := kr_4 _ (List.mem_of_getElem? (i := 6) rfl)
theorem kw_4_7 : (Cond.instanceMethod yX9_init) ∈ wsL_law := kr_4 _ (List.mem_of_getElem? (i := 7) rfl)
theorem kw_4_8 : (Cond.code yX9_init cX9_init 1 none) ∈ wsL_law := kr_4 _ (List.mem_of_getElem? (i := 8) rfl)
theorem kw_4_9 : (Cond.methodLink RX9 3 objectInit) ∈ wsL_law := kr_4 _ (List.mem_of_getElem? (i := 9) rfl)
theorem kw_4_10 : (Cond.instanceMethod yX2_init) ∈ wsL_law := kr_4 _ (List.mem_of_getElem? (i := 10) rfl)
theorem kw_4_11 : (Cond.code yX2_init cX2_init 1 none) ∈ wsL_law := kr_4 _ (List.mem_of_getElem? (i := 11) rfl)
theorem kw_4_12 : (Cond.methodLink RX2 3 objectInit) ∈ wsL_law := kr_4 _ (List.mem_of_getElem? (i := 12) rfl)
theorem kw_4_13 : (Cond.methodLink RX10 21 yX0_init) ∈ wsL_law := kr_4 _ (List.mem_of_getElem? (i := 13) rfl)
theorem kw_4_14 : (Cond.instanceMethod yX0_init) ∈ wsL_law := kr_4 _ (List.mem_of_getElem? (i := 14) rfl)
theorem kw_4_15 : (Cond.code yX0_init cX0_init 2 none) ∈ wsL_law := kr_4 _ (List.mem_of_getElem? (i := 15) rfl)
theorem kw_4_16 : (Cond.methodLink RX0 3 objectInit) ∈ wsL_law := kr_4 _ (List.mem_of_getElem? (i := 16) rfl)
theorem kw_4_17 : (Cond.classLink RX0 9 RX1) ∈ wsL_law := kr_4 _ (List.mem_of_getElem? (i := 17) rfl)
theorem kw_4_18 : (Cond.fieldLink RX0 11 "PageRotas$History" "states" "[LPageRotas$House;") ∈ wsL_law := kr_4 _ (List.mem_of_getElem? (i := 18) rfl)
theorem kw_4_19 : (Cond.methodLink RX0 17 yX1_init) ∈ wsL_law := kr_4 _ (List.mem_of_getElem? (i := 19) rfl)
theorem kw_4_20 : (Cond.instanceMethod yX6_init) ∈ wsL_law := kr_4 _ (List.mem_of_getElem? (i := 20) rfl)
theorem kw_4_21 : (Cond.code yX6_init cX6_init 1 none) ∈ wsL_law := kr_4 _ (List.mem_of_getElem? (i := 21) rfl)
theorem kw_4_22 : (Cond.methodLink RX6 3 objectInit) ∈ wsL_law := kr_4 _ (List.mem_of_getElem? (i := 22) rfl)
theorem kw_4_23 : (Cond.arrayClass .char) ∈ wsL_law := kr_4 _ (List.mem_of_getElem? (i := 23) rfl)
theorem kw_5_0 : (Cond.fieldLink RX6 9 "PageRotas$Script" "signs" "[C") ∈ wsL_law := kr_5 _ (List.mem_of_getElem? (i := 0) rfl)
theorem kw_5_1 : (Cond.fieldLink RX6 15 "PageRotas$Script" "numbers" "[I") ∈ wsL_law := kr_5 _ (List.mem_of_getElem? (i := 1) rfl)
theorem kw_5_2 : (Cond.fieldLink RX6 19 "PageRotas$Script" "faultReason" "I") ∈ wsL_law := kr_5 _ (List.mem_of_getElem? (i := 2) rfl)
theorem kw_5_3 : (Cond.methodLink RL 12 yX11_init) ∈ wsL_law := kr_5 _ (List.mem_of_getElem? (i := 3) rfl)
theorem kw_5_4 : (Cond.instanceMethod yX11_init) ∈ wsL_law := kr_5 _ (List.mem_of_getElem? (i := 4) rfl)
theorem kw_5_5 : (Cond.code yX11_init cX11_init 1 none) ∈ wsL_law := kr_5 _ (List.mem_of_getElem? (i := 5) rfl)
theorem kw_5_6 : (Cond.methodLink RX11 1 objectInit) ∈ wsL_law := kr_5 _ (List.mem_of_getElem? (i := 6) rfl)
theorem kw_5_7 : (Cond.fieldLink RX11 7 "PageRotasModel" "s" "[I") ∈ wsL_law := kr_5 _ (List.mem_of_getElem? (i := 7) rfl)
theorem kw_5_8 : (Cond.fieldLink RX11 13 "PageRotasModel" "begun" "[I") ∈ wsL_law := kr_5 _ (List.mem_of_getElem? (i := 8) rfl)
theorem kw_5_9 : (Cond.fieldLink RX11 16 "PageRotasModel" "aside" "[I") ∈ wsL_law := kr_5 _ (List.mem_of_getElem? (i := 9) rfl)
theorem kw_5_10 : (Cond.fieldLink RX11 19 "PageRotasModel" "past" "[I") ∈ wsL_law := kr_5 _ (List.mem_of_getElem? (i := 10) rfl)
theorem kw_5_11 : (Cond.fieldLink RX11 22 "PageRotasModel" "text" "[I") ∈ wsL_law := kr_5 _ (List.mem_of_getElem? (i := 11) rfl)
theorem kw_5_12 : (Cond.fieldLink RX11 25 "PageRotasModel" "numbers" "[I") ∈ wsL_law := kr_5 _ (List.mem_of_getElem? (i := 12) rfl)
theorem kw_5_13 : (Cond.methodLink RL 13 yX10_person) ∈ wsL_law := kr_5 _ (List.mem_of_getElem? (i := 13) rfl)
theorem kw_5_14 : (Cond.instanceMethod yX10_person) ∈ wsL_law := kr_5 _ (List.mem_of_getElem? (i := 14) rfl)
theorem kw_5_15 : (Cond.selects RX10 yX10_person yX10_person) ∈ wsL_law := kr_5 _ (List.mem_of_getElem? (i := 15) rfl)
theorem kw_5_16 : (Cond.code yX10_person cX10_person 1 (some .int)) ∈ wsL_law := kr_5 _ (List.mem_of_getElem? (i := 16) rfl)
theorem kw_5_17 : (Cond.fieldLink RX10 37 "PageRotas$House" "rotas" "LPageRotas$Rotas;") ∈ wsL_law := kr_5 _ (List.mem_of_getElem? (i := 17) rfl)
theorem kw_5_18 : (Cond.methodLink RX10 33 yX0_prepare) ∈ wsL_law := kr_5 _ (List.mem_of_getElem? (i := 18) rfl)
theorem kw_5_19 : (Cond.instanceMethod yX0_prepare) ∈ wsL_law := kr_5 _ (List.mem_of_getElem? (i := 19) rfl)
theorem kw_5_20 : (Cond.selects RX0 yX0_prepare yX0_prepare) ∈ wsL_law := kr_5 _ (List.mem_of_getElem? (i := 20) rfl)
theorem kw_5_21 : (Cond.code yX0_prepare cX0_prepare 2 none) ∈ wsL_law := kr_5 _ (List.mem_of_getElem? (i := 21) rfl)
theorem kw_5_22 : (Cond.fieldLink RX0 18 "PageRotas$History" "size" "I") ∈ wsL_law := kr_5 _ (List.mem_of_getElem? (i := 22) rfl)
theorem kw_5_23 : (Cond.methodLink RX0 22 yX1_copyFrom) ∈ wsL_law := kr_5 _ (List.mem_of_getElem? (i := 23) rfl)
theorem kw_6_0 : (Cond.instanceMethod yX1_copyFrom) ∈ wsL_law := kr_6 _ (List.mem_of_getElem? (i := 0) rfl)
theorem kw_6_1 : (Cond.selects RX1 yX1_copyFrom yX1_copyFrom) ∈ wsL_law := kr_6 _ (List.mem_of_getElem? (i := 1) rfl)
theorem kw_6_2 : (Cond.code yX1_copyFrom cX1_copyFrom 3 none) ∈ wsL_law := kr_6 _ (List.mem_of_getElem? (i := 2) rfl)
theorem kw_6_3 : (Cond.fieldLink RX1 49 "PageRotas$House" "time" "I") ∈ wsL_law := kr_6 _ (List.mem_of_getElem? (i := 3) rfl)
theorem kw_6_4 : (Cond.methodLink RX1 39 yX5_copyFrom) ∈ wsL_law := kr_6 _ (List.mem_of_getElem? (i := 4) rfl)
theorem kw_6_5 : (Cond.instanceMethod yX5_copyFrom) ∈ wsL_law := kr_6 _ (List.mem_of_getElem? (i := 5) rfl)
theorem kw_6_6 : (Cond.selects RX5 yX5_copyFrom yX5_copyFrom) ∈ wsL_law := kr_6 _ (List.mem_of_getElem? (i := 6) rfl)
theorem kw_6_7 : (Cond.code yX5_copyFrom cX5_copyFrom 3 none) ∈ wsL_law := kr_6 _ (List.mem_of_getElem? (i := 7) rfl)
theorem kw_6_8 : (Cond.fieldLink RX5 42 "PageRotas$Rotas" "peopleCount" "I") ∈ wsL_law := kr_6 _ (List.mem_of_getElem? (i := 8) rfl)
theorem kw_6_9 : (Cond.fieldLink RX5 46 "PageRotas$Rotas" "regionCount" "I") ∈ wsL_law := kr_6 _ (List.mem_of_getElem? (i := 9) rfl)
theorem kw_6_10 : (Cond.fieldLink RX5 49 "PageRotas$Rotas" "standInCount" "I") ∈ wsL_law := kr_6 _ (List.mem_of_getElem? (i := 10) rfl)
theorem kw_6_11 : (Cond.methodLink RX5 32 yX3_copyFrom) ∈ wsL_law := kr_6 _ (List.mem_of_getElem? (i := 11) rfl)
theorem kw_6_12 : (Cond.instanceMethod yX3_copyFrom) ∈ wsL_law := kr_6 _ (List.mem_of_getElem? (i := 12) rfl)
theorem kw_6_13 : (Cond.selects RX3 yX3_copyFrom yX3_copyFrom) ∈ wsL_law := kr_6 _ (List.mem_of_getElem? (i := 13) rfl)
theorem kw_6_14 : (Cond.code yX3_copyFrom cX3_copyFrom 2 none) ∈ wsL_law := kr_6 _ (List.mem_of_getElem? (i := 14) rfl)
theorem kw_6_15 : (Cond.fieldLink RX3 16 "PageRotas$Span" "from" "I") ∈ wsL_law := kr_6 _ (List.mem_of_getElem? (i := 15) rfl)
theorem kw_6_16 : (Cond.fieldLink RX3 20 "PageRotas$Span" "to" "I") ∈ wsL_law := kr_6 _ (List.mem_of_getElem? (i := 16) rfl)
theorem kw_6_17 : (Cond.fieldLink RX3 27 "PageRotas$Person" "exceptions" "I") ∈ wsL_law := kr_6 _ (List.mem_of_getElem? (i := 17) rfl)
theorem kw_6_18 : (Cond.fieldLink RX3 30 "PageRotas$Person" "pages" "I") ∈ wsL_law := kr_6 _ (List.mem_of_getElem? (i := 18) rfl)
theorem kw_6_19 : (Cond.fieldLink RX3 33 "PageRotas$Person" "resolved" "I") ∈ wsL_law := kr_6 _ (List.mem_of_getElem? (i := 19) rfl)
theorem kw_6_20 : (Cond.methodLink RX3 23 yX7_put) ∈ wsL_law := kr_6 _ (List.mem_of_getElem? (i := 20) rfl)
theorem kw_6_21 : (Cond.instanceMethod yX7_put) ∈ wsL_law := kr_6 _ (List.mem_of_getElem? (i := 21) rfl)
theorem kw_6_22 : (Cond.selects RX7 yX7_put yX7_put) ∈ wsL_law := kr_6 _ (List.mem_of_getElem? (i := 22) rfl)
theorem kw_6_23 : (Cond.code yX7_put cX7_put 3 none) ∈ wsL_law := kr_6 _ (List.mem_of_getElem? (i := 23) rfl)
theorem kw_7_0 : (Cond.fieldLink RX7 9 "PageRotas$Span" "from" "I") ∈ wsL_law := kr_7 _ (List.mem_of_getElem? (i := 0) rfl)
theorem kw_7_1 : (Cond.fieldLink RX7 15 "PageRotas$Span" "to" "I") ∈ wsL_law := kr_7 _ (List.mem_of_getElem? (i := 1) rfl)
theorem kw_7_2 : (Cond.methodLink RX5 36 yX4_copyFrom) ∈ wsL_law := kr_7 _ (List.mem_of_getElem? (i := 2) rfl)
theorem kw_7_3 : (Cond.instanceMethod yX4_copyFrom) ∈ wsL_law := kr_7 _ (List.mem_of_getElem? (i := 3) rfl)
theorem kw_7_4 : (Cond.selects RX4 yX4_copyFrom yX4_copyFrom) ∈ wsL_law := kr_7 _ (List.mem_of_getElem? (i := 4) rfl)
theorem kw_7_5 : (Cond.code yX4_copyFrom cX4_copyFrom 2 none) ∈ wsL_law := kr_7 _ (List.mem_of_getElem? (i := 5) rfl)
theorem kw_7_6 : (Cond.fieldLink RX4 22 "PageRotas$Span" "from" "I") ∈ wsL_law := kr_7 _ (List.mem_of_getElem? (i := 6) rfl)
theorem kw_7_7 : (Cond.fieldLink RX4 26 "PageRotas$Span" "to" "I") ∈ wsL_law := kr_7 _ (List.mem_of_getElem? (i := 7) rfl)
theorem kw_7_8 : (Cond.methodLink RX4 33 arraycopyName) ∈ wsL_law := kr_7 _ (List.mem_of_getElem? (i := 8) rfl)
theorem kw_7_9 : (Cond.native arraycopyName) ∈ wsL_law := kr_7 _ (List.mem_of_getElem? (i := 9) rfl)
theorem kw_7_10 : (Cond.static arraycopyName) ∈ wsL_law := kr_7 _ (List.mem_of_getElem? (i := 10) rfl)
theorem kw_7_11 : (Cond.initialized "java/lang/System") ∈ wsL_law := kr_7 _ (List.mem_of_getElem? (i := 11) rfl)
theorem kw_7_12 : (Cond.fieldLink RX4 39 "PageRotas$Region" "shift" "I") ∈ wsL_law := kr_7 _ (List.mem_of_getElem? (i := 12) rfl)
theorem kw_7_13 : (Cond.fieldLink RX4 42 "PageRotas$Region" "size" "I") ∈ wsL_law := kr_7 _ (List.mem_of_getElem? (i := 13) rfl)
theorem kw_7_14 : (Cond.methodLink RX4 29 yX7_put) ∈ wsL_law := kr_7 _ (List.mem_of_getElem? (i := 14) rfl)
theorem kw_7_15 : (Cond.methodLink RX5 39 yX8_copyFrom) ∈ wsL_law := kr_7 _ (List.mem_of_getElem? (i := 15) rfl)
theorem kw_7_16 : (Cond.instanceMethod yX8_copyFrom) ∈ wsL_law := kr_7 _ (List.mem_of_getElem? (i := 16) rfl)
theorem kw_7_17 : (Cond.selects RX8 yX8_copyFrom yX8_copyFrom) ∈ wsL_law := kr_7 _ (List.mem_of_getElem? (i := 17) rfl)
theorem kw_7_18 : (Cond.code yX8_copyFrom cX8_copyFrom 2 none) ∈ wsL_law := kr_7 _ (List.mem_of_getElem? (i := 18) rfl)
theorem kw_7_19 : (Cond.fieldLink RX8 7 "PageRotas$StandIn" "region" "I") ∈ wsL_law := kr_7 _ (List.mem_of_getElem? (i := 19) rfl)
theorem kw_7_20 : (Cond.fieldLink RX8 13 "PageRotas$StandIn" "person" "I") ∈ wsL_law := kr_7 _ (List.mem_of_getElem? (i := 20) rfl)
theorem kw_7_21 : (Cond.fieldLink RX8 16 "PageRotas$StandIn" "end" "I") ∈ wsL_law := kr_7 _ (List.mem_of_getElem? (i := 21) rfl)
theorem kw_7_22 : (Cond.methodLink RX1 43 yX2_copyFrom) ∈ wsL_law := kr_7 _ (List.mem_of_getElem? (i := 22) rfl)
theorem kw_7_23 : (Cond.instanceMethod yX2_copyFrom) ∈ wsL_law := kr_7 _ (List.mem_of_getElem? (i := 23) rfl)
theorem kw_8_0 : (Cond.selects RX2 yX2_copyFrom yX2_copyFrom) ∈ wsL_law := kr_8 _ (List.mem_of_getElem? (i := 0) rfl)
theorem kw_8_1 : (Cond.code yX2_copyFrom cX2_copyFrom 2 none) ∈ wsL_law := kr_8 _ (List.mem_of_getElem? (i := 1) rfl)
theorem kw_8_2 : (Cond.fieldLink RX2 9 "PageRotas$Incident" "open" "Z") ∈ wsL_law := kr_8 _ (List.mem_of_getElem? (i := 2) rfl)
theorem kw_8_3 : (Cond.fieldLink RX2 15 "PageRotas$Incident" "cause" "I") ∈ wsL_law := kr_8 _ (List.mem_of_getElem? (i := 3) rfl)
theorem kw_8_4 : (Cond.fieldLink RX2 19 "PageRotas$Incident" "severity" "I") ∈ wsL_law := kr_8 _ (List.mem_of_getElem? (i := 4) rfl)
theorem kw_8_5 : (Cond.fieldLink RX2 22 "PageRotas$Incident" "level" "I") ∈ wsL_law := kr_8 _ (List.mem_of_getElem? (i := 5) rfl)
theorem kw_8_6 : (Cond.fieldLink RX2 25 "PageRotas$Incident" "owner" "I") ∈ wsL_law := kr_8 _ (List.mem_of_getElem? (i := 6) rfl)
theorem kw_8_7 : (Cond.fieldLink RX2 28 "PageRotas$Incident" "region" "I") ∈ wsL_law := kr_8 _ (List.mem_of_getElem? (i := 7) rfl)
theorem kw_8_8 : (Cond.fieldLink RX2 31 "PageRotas$Incident" "pagedAt" "I") ∈ wsL_law := kr_8 _ (List.mem_of_getElem? (i := 8) rfl)
theorem kw_8_9 : (Cond.fieldLink RX2 34 "PageRotas$Incident" "acknowledged" "Z") ∈ wsL_law := kr_8 _ (List.mem_of_getElem? (i := 9) rfl)
theorem kw_8_10 : (Cond.fieldLink RX2 37 "PageRotas$Incident" "alerts" "I") ∈ wsL_law := kr_8 _ (List.mem_of_getElem? (i := 10) rfl)
theorem kw_8_11 : (Cond.fieldLink RX2 40 "PageRotas$Incident" "firstAlert" "I") ∈ wsL_law := kr_8 _ (List.mem_of_getElem? (i := 11) rfl)
theorem kw_8_12 : (Cond.fieldLink RX2 43 "PageRotas$Incident" "latestAlert" "I") ∈ wsL_law := kr_8 _ (List.mem_of_getElem? (i := 12) rfl)
theorem kw_8_13 : (Cond.fieldLink RX2 46 "PageRotas$Incident" "unowned" "I") ∈ wsL_law := kr_8 _ (List.mem_of_getElem? (i := 13) rfl)
theorem kw_8_14 : (Cond.fieldLink RX2 49 "PageRotas$Incident" "handOffs" "I") ∈ wsL_law := kr_8 _ (List.mem_of_getElem? (i := 14) rfl)
theorem kw_8_15 : (Cond.fieldLink RX2 52 "PageRotas$Incident" "escalations" "I") ∈ wsL_law := kr_8 _ (List.mem_of_getElem? (i := 15) rfl)
theorem kw_8_16 : (Cond.methodLink RX1 46 yX9_copyFrom) ∈ wsL_law := kr_8 _ (List.mem_of_getElem? (i := 16) rfl)
theorem kw_8_17 : (Cond.instanceMethod yX9_copyFrom) ∈ wsL_law := kr_8 _ (List.mem_of_getElem? (i := 17) rfl)
theorem kw_8_18 : (Cond.selects RX9 yX9_copyFrom yX9_copyFrom) ∈ wsL_law := kr_8 _ (List.mem_of_getElem? (i := 18) rfl)
theorem kw_8_19 : (Cond.code yX9_copyFrom cX9_copyFrom 2 none) ∈ wsL_law := kr_8 _ (List.mem_of_getElem? (i := 19) rfl)
theorem kw_8_20 : (Cond.fieldLink RX9 9 "PageRotas$Totals" "alerts" "I") ∈ wsL_law := kr_8 _ (List.mem_of_getElem? (i := 20) rfl)
theorem kw_8_21 : (Cond.fieldLink RX9 15 "PageRotas$Totals" "folded" "I") ∈ wsL_law := kr_8 _ (List.mem_of_getElem? (i := 21) rfl)
theorem kw_8_22 : (Cond.fieldLink RX9 18 "PageRotas$Totals" "pages" "I") ∈ wsL_law := kr_8 _ (List.mem_of_getElem? (i := 22) rfl)
theorem kw_8_23 : (Cond.fieldLink RX9 21 "PageRotas$Totals" "resolved" "I") ∈ wsL_law := kr_8 _ (List.mem_of_getElem? (i := 23) rfl)
theorem kw_9_0 : (Cond.fieldLink RX9 24 "PageRotas$Totals" "handOffs" "I") ∈ wsL_law := kr_9 _ (List.mem_of_getElem? (i := 0) rfl)
theorem kw_9_1 : (Cond.fieldLink RX9 27 "PageRotas$Totals" "escalations" "I") ∈ wsL_law := kr_9 _ (List.mem_of_getElem? (i := 1) rfl)
theorem kw_9_2 : (Cond.fieldLink RX9 30 "PageRotas$Totals" "unowned" "I") ∈ wsL_law := kr_9 _ (List.mem_of_getElem? (i := 2) rfl)
theorem kw_9_3 : (Cond.fieldLink RX9 33 "PageRotas$Totals" "open" "I") ∈ wsL_law := kr_9 _ (List.mem_of_getElem? (i := 3) rfl)
theorem kw_9_4 : (Cond.fieldLink RX9 36 "PageRotas$Totals" "acknowledgements" "I") ∈ wsL_law := kr_9 _ (List.mem_of_getElem? (i := 4) rfl)
theorem kw_9_5 : (Cond.fieldLink RX9 39 "PageRotas$Totals" "minutesToAcknowledge" "I") ∈ wsL_law := kr_9 _ (List.mem_of_getElem? (i := 5) rfl)
theorem kw_9_6 : (Cond.methodLink RX10 41 yX5_addPerson) ∈ wsL_law := kr_9 _ (List.mem_of_getElem? (i := 6) rfl)
theorem kw_9_7 : (Cond.instanceMethod yX5_addPerson) ∈ wsL_law := kr_9 _ (List.mem_of_getElem? (i := 7) rfl)
theorem kw_9_8 : (Cond.selects RX5 yX5_addPerson yX5_addPerson) ∈ wsL_law := kr_9 _ (List.mem_of_getElem? (i := 8) rfl)
theorem kw_9_9 : (Cond.code yX5_addPerson cX5_addPerson 2 (some .int)) ∈ wsL_law := kr_9 _ (List.mem_of_getElem? (i := 9) rfl)
theorem kw_9_10 : (Cond.methodLink RX10 47 yX10_settled) ∈ wsL_law := kr_9 _ (List.mem_of_getElem? (i := 10) rfl)
theorem kw_9_11 : (Cond.instanceMethod yX10_settled) ∈ wsL_law := kr_9 _ (List.mem_of_getElem? (i := 11) rfl)
theorem kw_9_12 : (Cond.selects RX10 yX10_settled yX10_settled) ∈ wsL_law := kr_9 _ (List.mem_of_getElem? (i := 12) rfl)
theorem kw_9_13 : (Cond.code yX10_settled cX10_settled 2 (some .int)) ∈ wsL_law := kr_9 _ (List.mem_of_getElem? (i := 13) rfl)
theorem kw_9_14 : (Cond.methodLink RX10 268 yX0_keepPrepared) ∈ wsL_law := kr_9 _ (List.mem_of_getElem? (i := 14) rfl)
theorem kw_9_15 : (Cond.instanceMethod yX0_keepPrepared) ∈ wsL_law := kr_9 _ (List.mem_of_getElem? (i := 15) rfl)
theorem kw_9_16 : (Cond.selects RX0 yX0_keepPrepared yX0_keepPrepared) ∈ wsL_law := kr_9 _ (List.mem_of_getElem? (i := 16) rfl)
theorem kw_9_17 : (Cond.code yX0_keepPrepared cX0_keepPrepared 1 none) ∈ wsL_law := kr_9 _ (List.mem_of_getElem? (i := 17) rfl)
theorem kw_9_18 : (Cond.methodLink RX0 26 yX0_dropOldest) ∈ wsL_law := kr_9 _ (List.mem_of_getElem? (i := 18) rfl)
theorem kw_9_19 : (Cond.instanceMethod yX0_dropOldest) ∈ wsL_law := kr_9 _ (List.mem_of_getElem? (i := 19) rfl)
theorem kw_9_20 : (Cond.selects RX0 yX0_dropOldest yX0_dropOldest) ∈ wsL_law := kr_9 _ (List.mem_of_getElem? (i := 20) rfl)
theorem kw_9_21 : (Cond.code yX0_dropOldest cX0_dropOldest 3 none) ∈ wsL_law := kr_9 _ (List.mem_of_getElem? (i := 21) rfl)
theorem kw_9_22 : (Cond.methodLink RL 17 yX11_person) ∈ wsL_law := kr_9 _ (List.mem_of_getElem? (i := 22) rfl)
theorem kw_9_23 : (Cond.instanceMethod yX11_person) ∈ wsL_law := kr_9 _ (List.mem_of_getElem? (i := 23) rfl)
theorem kw_10_0 : (Cond.selects RX11 yX11_person yX11_person) ∈ wsL_law := kr_10 _ (List.mem_of_getElem? (i := 0) rfl)
theorem kw_10_1 : (Cond.code yX11_person cX11_person 1 (some .int)) ∈ wsL_law := kr_10 _ (List.mem_of_getElem? (i := 1) rfl)
theorem kw_10_2 : (Cond.methodLink RX11 108 yX11_begins) ∈ wsL_law := kr_10 _ (List.mem_of_getElem? (i := 2) rfl)
theorem kw_10_3 : (Cond.instanceMethod yX11_begins) ∈ wsL_law := kr_10 _ (List.mem_of_getElem? (i := 3) rfl)
theorem kw_10_4 : (Cond.selects RX11 yX11_begins yX11_begins) ∈ wsL_law := kr_10 _ (List.mem_of_getElem? (i := 4) rfl)
theorem kw_10_5 : (Cond.code yX11_begins cX11_begins 2 none) ∈ wsL_law := kr_10 _ (List.mem_of_getElem? (i := 5) rfl)
theorem kw_10_6 : (Cond.methodLink RX11 111 yX11_comes) ∈ wsL_law := kr_10 _ (List.mem_of_getElem? (i := 6) rfl)
theorem kw_10_7 : (Cond.instanceMethod yX11_comes) ∈ wsL_law := kr_10 _ (List.mem_of_getElem? (i := 7) rfl)
theorem kw_10_8 : (Cond.selects RX11 yX11_comes yX11_comes) ∈ wsL_law := kr_10 _ (List.mem_of_getElem? (i := 8) rfl)
theorem kw_10_9 : (Cond.code yX11_comes cX11_comes 1 (some .int)) ∈ wsL_law := kr_10 _ (List.mem_of_getElem? (i := 9) rfl)
theorem kw_10_10 : (Cond.methodLink RX11 114 yX11_acted) ∈ wsL_law := kr_10 _ (List.mem_of_getElem? (i := 10) rfl)
theorem kw_10_11 : (Cond.instanceMethod yX11_acted) ∈ wsL_law := kr_10 _ (List.mem_of_getElem? (i := 11) rfl)
theorem kw_10_12 : (Cond.selects RX11 yX11_acted yX11_acted) ∈ wsL_law := kr_10 _ (List.mem_of_getElem? (i := 12) rfl)
theorem kw_10_13 : (Cond.code yX11_acted cX11_acted 3 (some .int)) ∈ wsL_law := kr_10 _ (List.mem_of_getElem? (i := 13) rfl)
theorem kw_10_14 : (Cond.fieldLink RX11 28 "PageRotasModel" "states" "I") ∈ wsL_law := kr_10 _ (List.mem_of_getElem? (i := 14) rfl)
theorem kw_10_15 : (Cond.methodLink RL 18 yX10_region) ∈ wsL_law := kr_10 _ (List.mem_of_getElem? (i := 15) rfl)
theorem kw_10_16 : (Cond.instanceMethod yX10_region) ∈ wsL_law := kr_10 _ (List.mem_of_getElem? (i := 16) rfl)
theorem kw_10_17 : (Cond.selects RX10 yX10_region yX10_region) ∈ wsL_law := kr_10 _ (List.mem_of_getElem? (i := 17) rfl)
theorem kw_10_18 : (Cond.code yX10_region cX10_region 4 (some .int)) ∈ wsL_law := kr_10 _ (List.mem_of_getElem? (i := 18) rfl)
theorem kw_10_19 : (Cond.methodLink RX10 51 yX5_addRegion) ∈ wsL_law := kr_10 _ (List.mem_of_getElem? (i := 19) rfl)
theorem kw_10_20 : (Cond.instanceMethod yX5_addRegion) ∈ wsL_law := kr_10 _ (List.mem_of_getElem? (i := 20) rfl)
theorem kw_10_21 : (Cond.selects RX5 yX5_addRegion yX5_addRegion) ∈ wsL_law := kr_10 _ (List.mem_of_getElem? (i := 21) rfl)
theorem kw_10_22 : (Cond.code yX5_addRegion cX5_addRegion 5 (some .int)) ∈ wsL_law := kr_10 _ (List.mem_of_getElem? (i := 22) rfl)
theorem kw_10_23 : (Cond.methodLink RX5 52 yX7_isHour) ∈ wsL_law := kr_10 _ (List.mem_of_getElem? (i := 23) rfl)
theorem kw_11_0 : (Cond.static yX7_isHour) ∈ wsL_law := kr_11 _ (List.mem_of_getElem? (i := 0) rfl)
theorem kw_11_1 : (Cond.code yX7_isHour cX7_isHour 1 (some .boolean)) ∈ wsL_law := kr_11 _ (List.mem_of_getElem? (i := 1) rfl)
theorem kw_11_2 : (Cond.methodLink RX5 58 yX4_put) ∈ wsL_law := kr_11 _ (List.mem_of_getElem? (i := 2) rfl)
theorem kw_11_3 : (Cond.instanceMethod yX4_put) ∈ wsL_law := kr_11 _ (List.mem_of_getElem? (i := 3) rfl)
theorem kw_11_4 : (Cond.selects RX4 yX4_put yX4_put) ∈ wsL_law := kr_11 _ (List.mem_of_getElem? (i := 4) rfl)
theorem kw_11_5 : (Cond.code yX4_put cX4_put 4 none) ∈ wsL_law := kr_11 _ (List.mem_of_getElem? (i := 5) rfl)
theorem kw_11_6 : (Cond.methodLink RL 22 yX11_region) ∈ wsL_law := kr_11 _ (List.mem_of_getElem? (i := 6) rfl)
theorem kw_11_7 : (Cond.instanceMethod yX11_region) ∈ wsL_law := kr_11 _ (List.mem_of_getElem? (i := 7) rfl)
theorem kw_11_8 : (Cond.selects RX11 yX11_region yX11_region) ∈ wsL_law := kr_11 _ (List.mem_of_getElem? (i := 8) rfl)
theorem kw_11_9 : (Cond.code yX11_region cX11_region 4 (some .int)) ∈ wsL_law := kr_11 _ (List.mem_of_getElem? (i := 9) rfl)
theorem kw_11_10 : (Cond.methodLink RX11 117 yX11_lies) ∈ wsL_law := kr_11 _ (List.mem_of_getElem? (i := 10) rfl)
theorem kw_11_11 : (Cond.instanceMethod yX11_lies) ∈ wsL_law := kr_11 _ (List.mem_of_getElem? (i := 11) rfl)
theorem kw_11_12 : (Cond.selects RX11 yX11_lies yX11_lies) ∈ wsL_law := kr_11 _ (List.mem_of_getElem? (i := 12) rfl)
theorem kw_11_13 : (Cond.code yX11_lies cX11_lies 5 (some .int)) ∈ wsL_law := kr_11 _ (List.mem_of_getElem? (i := 13) rfl)
theorem kw_11_14 : (Cond.methodLink RX11 32 yX11_in) ∈ wsL_law := kr_11 _ (List.mem_of_getElem? (i := 14) rfl)
theorem kw_11_15 : (Cond.static yX11_in) ∈ wsL_law := kr_11 _ (List.mem_of_getElem? (i := 15) rfl)
theorem kw_11_16 : (Cond.code yX11_in cX11_in 3 (some .boolean)) ∈ wsL_law := kr_11 _ (List.mem_of_getElem? (i := 16) rfl)
theorem kw_11_17 : (Cond.methodLink RL 23 yX10_join) ∈ wsL_law := kr_11 _ (List.mem_of_getElem? (i := 17) rfl)
theorem kw_11_18 : (Cond.instanceMethod yX10_join) ∈ wsL_law := kr_11 _ (List.mem_of_getElem? (i := 18) rfl)
theorem kw_11_19 : (Cond.selects RX10 yX10_join yX10_join) ∈ wsL_law := kr_11 _ (List.mem_of_getElem? (i := 19) rfl)
theorem kw_11_20 : (Cond.code yX10_join cX10_join 3 (some .int)) ∈ wsL_law := kr_11 _ (List.mem_of_getElem? (i := 20) rfl)
theorem kw_11_21 : (Cond.methodLink RX10 55 yX5_letJoin) ∈ wsL_law := kr_11 _ (List.mem_of_getElem? (i := 21) rfl)
theorem kw_11_22 : (Cond.instanceMethod yX5_letJoin) ∈ wsL_law := kr_11 _ (List.mem_of_getElem? (i := 22) rfl)
theorem kw_11_23 : (Cond.selects RX5 yX5_letJoin yX5_letJoin) ∈ wsL_law := kr_11 _ (List.mem_of_getElem? (i := 23) rfl)
theorem kw_12_0 : (Cond.code yX5_letJoin cX5_letJoin 3 (some .int)) ∈ wsL_law := kr_12 _ (List.mem_of_getElem? (i := 0) rfl)
theorem kw_12_1 : (Cond.methodLink RX5 62 yX5_hasRegion) ∈ wsL_law := kr_12 _ (List.mem_of_getElem? (i := 1) rfl)
theorem kw_12_2 : (Cond.instanceMethod yX5_hasRegion) ∈ wsL_law := kr_12 _ (List.mem_of_getElem? (i := 2) rfl)
theorem kw_12_3 : (Cond.selects RX5 yX5_hasRegion yX5_hasRegion) ∈ wsL_law := kr_12 _ (List.mem_of_getElem? (i := 3) rfl)
theorem kw_12_4 : (Cond.code yX5_hasRegion cX5_hasRegion 2 (some .boolean)) ∈ wsL_law := kr_12 _ (List.mem_of_getElem? (i := 4) rfl)
theorem kw_12_5 : (Cond.methodLink RX5 65 yX5_hasPerson) ∈ wsL_law := kr_12 _ (List.mem_of_getElem? (i := 5) rfl)
theorem kw_12_6 : (Cond.instanceMethod yX5_hasPerson) ∈ wsL_law := kr_12 _ (List.mem_of_getElem? (i := 6) rfl)
theorem kw_12_7 : (Cond.selects RX5 yX5_hasPerson yX5_hasPerson) ∈ wsL_law := kr_12 _ (List.mem_of_getElem? (i := 7) rfl)
theorem kw_12_8 : (Cond.code yX5_hasPerson cX5_hasPerson 2 (some .boolean)) ∈ wsL_law := kr_12 _ (List.mem_of_getElem? (i := 8) rfl)
theorem kw_12_9 : (Cond.methodLink RX5 68 yX4_add) ∈ wsL_law := kr_12 _ (List.mem_of_getElem? (i := 9) rfl)
theorem kw_12_10 : (Cond.instanceMethod yX4_add) ∈ wsL_law := kr_12 _ (List.mem_of_getElem? (i := 10) rfl)
theorem kw_12_11 : (Cond.selects RX4 yX4_add yX4_add) ∈ wsL_law := kr_12 _ (List.mem_of_getElem? (i := 11) rfl)
theorem kw_12_12 : (Cond.code yX4_add cX4_add 2 (some .int)) ∈ wsL_law := kr_12 _ (List.mem_of_getElem? (i := 12) rfl)
theorem kw_12_13 : (Cond.methodLink RX4 49 yX4_placeOf) ∈ wsL_law := kr_12 _ (List.mem_of_getElem? (i := 13) rfl)
theorem kw_12_14 : (Cond.instanceMethod yX4_placeOf) ∈ wsL_law := kr_12 _ (List.mem_of_getElem? (i := 14) rfl)
theorem kw_12_15 : (Cond.selects RX4 yX4_placeOf yX4_placeOf) ∈ wsL_law := kr_12 _ (List.mem_of_getElem? (i := 15) rfl)
theorem kw_12_16 : (Cond.code yX4_placeOf cX4_placeOf 3 (some .int)) ∈ wsL_law := kr_12 _ (List.mem_of_getElem? (i := 16) rfl)
theorem kw_12_17 : (Cond.methodLink RL 27 yX11_join) ∈ wsL_law := kr_12 _ (List.mem_of_getElem? (i := 17) rfl)
theorem kw_12_18 : (Cond.instanceMethod yX11_join) ∈ wsL_law := kr_12 _ (List.mem_of_getElem? (i := 18) rfl)
theorem kw_12_19 : (Cond.selects RX11 yX11_join yX11_join) ∈ wsL_law := kr_12 _ (List.mem_of_getElem? (i := 19) rfl)
theorem kw_12_20 : (Cond.code yX11_join cX11_join 3 (some .int)) ∈ wsL_law := kr_12 _ (List.mem_of_getElem? (i := 20) rfl)
theorem kw_12_21 : (Cond.methodLink RX11 121 yX11_joins) ∈ wsL_law := kr_12 _ (List.mem_of_getElem? (i := 21) rfl)
theorem kw_12_22 : (Cond.instanceMethod yX11_joins) ∈ wsL_law := kr_12 _ (List.mem_of_getElem? (i := 22) rfl)
theorem kw_12_23 : (Cond.selects RX11 yX11_joins yX11_joins) ∈ wsL_law := kr_12 _ (List.mem_of_getElem? (i := 23) rfl)
theorem kw_13_0 : (Cond.code yX11_joins cX11_joins 5 (some .int)) ∈ wsL_law := kr_13 _ (List.mem_of_getElem? (i := 0) rfl)
theorem kw_13_1 : (Cond.methodLink RX11 77 yX11_isRegion) ∈ wsL_law := kr_13 _ (List.mem_of_getElem? (i := 1) rfl)
theorem kw_13_2 : (Cond.instanceMethod yX11_isRegion) ∈ wsL_law := kr_13 _ (List.mem_of_getElem? (i := 2) rfl)
theorem kw_13_3 : (Cond.selects RX11 yX11_isRegion yX11_isRegion) ∈ wsL_law := kr_13 _ (List.mem_of_getElem? (i := 3) rfl)
theorem kw_13_4 : (Cond.code yX11_isRegion cX11_isRegion 2 (some .boolean)) ∈ wsL_law := kr_13 _ (List.mem_of_getElem? (i := 4) rfl)
theorem kw_13_5 : (Cond.methodLink RX11 80 yX11_isPerson) ∈ wsL_law := kr_13 _ (List.mem_of_getElem? (i := 5) rfl)
theorem kw_13_6 : (Cond.instanceMethod yX11_isPerson) ∈ wsL_law := kr_13 _ (List.mem_of_getElem? (i := 6) rfl)
theorem kw_13_7 : (Cond.selects RX11 yX11_isPerson yX11_isPerson) ∈ wsL_law := kr_13 _ (List.mem_of_getElem? (i := 7) rfl)
theorem kw_13_8 : (Cond.code yX11_isPerson cX11_isPerson 2 (some .boolean)) ∈ wsL_law := kr_13 _ (List.mem_of_getElem? (i := 8) rfl)
theorem kw_13_9 : (Cond.methodLink RX11 83 yX11_placeIn) ∈ wsL_law := kr_13 _ (List.mem_of_getElem? (i := 9) rfl)
theorem kw_13_10 : (Cond.instanceMethod yX11_placeIn) ∈ wsL_law := kr_13 _ (List.mem_of_getElem? (i := 10) rfl)
theorem kw_13_11 : (Cond.selects RX11 yX11_placeIn yX11_placeIn) ∈ wsL_law := kr_13 _ (List.mem_of_getElem? (i := 11) rfl)
theorem kw_13_12 : (Cond.code yX11_placeIn cX11_placeIn 5 (some .int)) ∈ wsL_law := kr_13 _ (List.mem_of_getElem? (i := 12) rfl)
theorem kw_13_13 : (Cond.methodLink RX11 40 yX11_ofWhere) ∈ wsL_law := kr_13 _ (List.mem_of_getElem? (i := 13) rfl)
theorem kw_13_14 : (Cond.instanceMethod yX11_ofWhere) ∈ wsL_law := kr_13 _ (List.mem_of_getElem? (i := 14) rfl)
theorem kw_13_15 : (Cond.selects RX11 yX11_ofWhere yX11_ofWhere) ∈ wsL_law := kr_13 _ (List.mem_of_getElem? (i := 15) rfl)
theorem kw_13_16 : (Cond.code yX11_ofWhere cX11_ofWhere 3 (some .int)) ∈ wsL_law := kr_13 _ (List.mem_of_getElem? (i := 16) rfl)
theorem kw_13_17 : (Cond.methodLink RL 28 yX10_leave) ∈ wsL_law := kr_13 _ (List.mem_of_getElem? (i := 17) rfl)
theorem kw_13_18 : (Cond.instanceMethod yX10_leave) ∈ wsL_law := kr_13 _ (List.mem_of_getElem? (i := 18) rfl)
theorem kw_13_19 : (Cond.selects RX10 yX10_leave yX10_leave) ∈ wsL_law := kr_13 _ (List.mem_of_getElem? (i := 19) rfl)
theorem kw_13_20 : (Cond.code yX10_leave cX10_leave 3 (some .int)) ∈ wsL_law := kr_13 _ (List.mem_of_getElem? (i := 20) rfl)
theorem kw_13_21 : (Cond.methodLink RX10 59 yX5_letLeave) ∈ wsL_law := kr_13 _ (List.mem_of_getElem? (i := 21) rfl)
theorem kw_13_22 : (Cond.instanceMethod yX5_letLeave) ∈ wsL_law := kr_13 _ (List.mem_of_getElem? (i := 22) rfl)
theorem kw_13_23 : (Cond.selects RX5 yX5_letLeave yX5_letLeave) ∈ wsL_law := kr_13 _ (List.mem_of_getElem? (i := 23) rfl)
theorem kw_14_0 : (Cond.code yX5_letLeave cX5_letLeave 3 (some .int)) ∈ wsL_law := kr_14 _ (List.mem_of_getElem? (i := 0) rfl)
theorem kw_14_1 : (Cond.methodLink RX5 72 yX4_remove) ∈ wsL_law := kr_14 _ (List.mem_of_getElem? (i := 1) rfl)
theorem kw_14_2 : (Cond.instanceMethod yX4_remove) ∈ wsL_law := kr_14 _ (List.mem_of_getElem? (i := 2) rfl)
theorem kw_14_3 : (Cond.selects RX4 yX4_remove yX4_remove) ∈ wsL_law := kr_14 _ (List.mem_of_getElem? (i := 3) rfl)
theorem kw_14_4 : (Cond.code yX4_remove cX4_remove 4 (some .int)) ∈ wsL_law := kr_14 _ (List.mem_of_getElem? (i := 4) rfl)
theorem kw_14_5 : (Cond.methodLink RL 31 yX11_leave) ∈ wsL_law := kr_14 _ (List.mem_of_getElem? (i := 5) rfl)
theorem kw_14_6 : (Cond.instanceMethod yX11_leave) ∈ wsL_law := kr_14 _ (List.mem_of_getElem? (i := 6) rfl)
theorem kw_14_7 : (Cond.selects RX11 yX11_leave yX11_leave) ∈ wsL_law := kr_14 _ (List.mem_of_getElem? (i := 7) rfl)
theorem kw_14_8 : (Cond.code yX11_leave cX11_leave 3 (some .int)) ∈ wsL_law := kr_14 _ (List.mem_of_getElem? (i := 8) rfl)
theorem kw_14_9 : (Cond.methodLink RX11 124 yX11_leaves) ∈ wsL_law := kr_14 _ (List.mem_of_getElem? (i := 9) rfl)
theorem kw_14_10 : (Cond.instanceMethod yX11_leaves) ∈ wsL_law := kr_14 _ (List.mem_of_getElem? (i := 10) rfl)
theorem kw_14_11 : (Cond.selects RX11 yX11_leaves yX11_leaves) ∈ wsL_law := kr_14 _ (List.mem_of_getElem? (i := 11) rfl)
theorem kw_14_12 : (Cond.code yX11_leaves cX11_leaves 6 (some .int)) ∈ wsL_law := kr_14 _ (List.mem_of_getElem? (i := 12) rfl)
theorem kw_14_13 : (Cond.methodLink RL 32 yX10_quiet) ∈ wsL_law := kr_14 _ (List.mem_of_getElem? (i := 13) rfl)
theorem kw_14_14 : (Cond.instanceMethod yX10_quiet) ∈ wsL_law := kr_14 _ (List.mem_of_getElem? (i := 14) rfl)
theorem kw_14_15 : (Cond.selects RX10 yX10_quiet yX10_quiet) ∈ wsL_law := kr_14 _ (List.mem_of_getElem? (i := 15) rfl)
theorem kw_14_16 : (Cond.code yX10_quiet cX10_quiet 4 (some .int)) ∈ wsL_law := kr_14 _ (List.mem_of_getElem? (i := 16) rfl)
theorem kw_14_17 : (Cond.methodLink RX10 62 yX5_putQuietHours) ∈ wsL_law := kr_14 _ (List.mem_of_getElem? (i := 17) rfl)
theorem kw_14_18 : (Cond.instanceMethod yX5_putQuietHours) ∈ wsL_law := kr_14 _ (List.mem_of_getElem? (i := 18) rfl)
theorem kw_14_19 : (Cond.selects RX5 yX5_putQuietHours yX5_putQuietHours) ∈ wsL_law := kr_14 _ (List.mem_of_getElem? (i := 19) rfl)
theorem kw_14_20 : (Cond.code yX5_putQuietHours cX5_putQuietHours 4 (some .int)) ∈ wsL_law := kr_14 _ (List.mem_of_getElem? (i := 20) rfl)
theorem kw_14_21 : (Cond.fieldLink RX5 75 "PageRotas$Person" "quiet" "LPageRotas$Span;") ∈ wsL_law := kr_14 _ (List.mem_of_getElem? (i := 21) rfl)
theorem kw_14_22 : (Cond.methodLink RX5 79 yX7_put) ∈ wsL_law := kr_14 _ (List.mem_of_getElem? (i := 22) rfl)
theorem kw_14_23 : (Cond.methodLink RX5 82 yX7_hours) ∈ wsL_law := kr_14 _ (List.mem_of_getElem? (i := 23) rfl)
theorem kw_15_0 : (Cond.instanceMethod yX7_hours) ∈ wsL_law := kr_15 _ (List.mem_of_getElem? (i := 0) rfl)
theorem kw_15_1 : (Cond.selects RX7 yX7_hours yX7_hours) ∈ wsL_law := kr_15 _ (List.mem_of_getElem? (i := 1) rfl)
theorem kw_15_2 : (Cond.code yX7_hours cX7_hours 1 (some .int)) ∈ wsL_law := kr_15 _ (List.mem_of_getElem? (i := 2) rfl)
theorem kw_15_3 : (Cond.methodLink RL 35 yX11_quiet) ∈ wsL_law := kr_15 _ (List.mem_of_getElem? (i := 3) rfl)
theorem kw_15_4 : (Cond.instanceMethod yX11_quiet) ∈ wsL_law := kr_15 _ (List.mem_of_getElem? (i := 4) rfl)
theorem kw_15_5 : (Cond.selects RX11 yX11_quiet yX11_quiet) ∈ wsL_law := kr_15 _ (List.mem_of_getElem? (i := 5) rfl)
theorem kw_15_6 : (Cond.code yX11_quiet cX11_quiet 4 (some .int)) ∈ wsL_law := kr_15 _ (List.mem_of_getElem? (i := 6) rfl)
theorem kw_15_7 : (Cond.methodLink RX11 127 yX11_rests) ∈ wsL_law := kr_15 _ (List.mem_of_getElem? (i := 7) rfl)
theorem kw_15_8 : (Cond.instanceMethod yX11_rests) ∈ wsL_law := kr_15 _ (List.mem_of_getElem? (i := 8) rfl)
theorem kw_15_9 : (Cond.selects RX11 yX11_rests yX11_rests) ∈ wsL_law := kr_15 _ (List.mem_of_getElem? (i := 9) rfl)
theorem kw_15_10 : (Cond.code yX11_rests cX11_rests 5 (some .int)) ∈ wsL_law := kr_15 _ (List.mem_of_getElem? (i := 10) rfl)
theorem kw_15_11 : (Cond.methodLink RL 36 yX10_except) ∈ wsL_law := kr_15 _ (List.mem_of_getElem? (i := 11) rfl)
theorem kw_15_12 : (Cond.instanceMethod yX10_except) ∈ wsL_law := kr_15 _ (List.mem_of_getElem? (i := 12) rfl)
theorem kw_15_13 : (Cond.selects RX10 yX10_except yX10_except) ∈ wsL_law := kr_15 _ (List.mem_of_getElem? (i := 13) rfl)
theorem kw_15_14 : (Cond.code yX10_except cX10_except 3 (some .int)) ∈ wsL_law := kr_15 _ (List.mem_of_getElem? (i := 14) rfl)
theorem kw_15_15 : (Cond.methodLink RX10 65 yX5_turnException) ∈ wsL_law := kr_15 _ (List.mem_of_getElem? (i := 15) rfl)
theorem kw_15_16 : (Cond.instanceMethod yX5_turnException) ∈ wsL_law := kr_15 _ (List.mem_of_getElem? (i := 16) rfl)
theorem kw_15_17 : (Cond.selects RX5 yX5_turnException yX5_turnException) ∈ wsL_law := kr_15 _ (List.mem_of_getElem? (i := 17) rfl)
theorem kw_15_18 : (Cond.code yX5_turnException cX5_turnException 3 (some .int)) ∈ wsL_law := kr_15 _ (List.mem_of_getElem? (i := 18) rfl)
theorem kw_15_19 : (Cond.fieldLink RX5 86 "PageRotas$Person" "exceptions" "I") ∈ wsL_law := kr_15 _ (List.mem_of_getElem? (i := 19) rfl)
theorem kw_15_20 : (Cond.methodLink RX5 89 yJ6_bitCount_0f7a4) ∈ wsL_law := kr_15 _ (List.mem_of_getElem? (i := 20) rfl)
theorem kw_15_21 : (Cond.static yJ6_bitCount_0f7a4) ∈ wsL_law := kr_15 _ (List.mem_of_getElem? (i := 21) rfl)
theorem kw_15_22 : (Cond.initialized RJ6) ∈ wsL_law := kr_15 _ (List.mem_of_getElem? (i := 22) rfl)
theorem kw_15_23 : (Cond.code yJ6_bitCount_0f7a4 cJ6_bitCount_0f7a4 1 (some .int)) ∈ wsL_law := kr_15 _ (List.mem_of_getElem? (i := 23) rfl)
theorem kw_16_0 : (Cond.constant RJ6 265 (1431655765)) ∈ wsL_law := kr_16 _ (List.mem_of_getElem? (i := 0) rfl)
theorem kw_16_1 : (Cond.constant RJ6 266 (858993459)) ∈ wsL_law := kr_16 _ (List.mem_of_getElem? (i := 1) rfl)
theorem kw_16_2 : (Cond.constant RJ6 267 (252645135)) ∈ wsL_law := kr_16 _ (List.mem_of_getElem? (i := 2) rfl)
theorem kw_16_3 : (Cond.methodLink RL 39 yX11_except) ∈ wsL_law := kr_16 _ (List.mem_of_getElem? (i := 3) rfl)
theorem kw_16_4 : (Cond.instanceMethod yX11_except) ∈ wsL_law := kr_16 _ (List.mem_of_getElem? (i := 4) rfl)
theorem kw_16_5 : (Cond.selects RX11 yX11_except yX11_except) ∈ wsL_law := kr_16 _ (List.mem_of_getElem? (i := 5) rfl)
theorem kw_16_6 : (Cond.code yX11_except cX11_except 3 (some .int)) ∈ wsL_law := kr_16 _ (List.mem_of_getElem? (i := 6) rfl)
theorem kw_16_7 : (Cond.methodLink RX11 130 yX11_excepts) ∈ wsL_law := kr_16 _ (List.mem_of_getElem? (i := 7) rfl)
theorem kw_16_8 : (Cond.instanceMethod yX11_excepts) ∈ wsL_law := kr_16 _ (List.mem_of_getElem? (i := 8) rfl)
theorem kw_16_9 : (Cond.selects RX11 yX11_excepts yX11_excepts) ∈ wsL_law := kr_16 _ (List.mem_of_getElem? (i := 9) rfl)
theorem kw_16_10 : (Cond.code yX11_excepts cX11_excepts 3 (some .int)) ∈ wsL_law := kr_16 _ (List.mem_of_getElem? (i := 10) rfl)
theorem kw_16_11 : (Cond.methodLink RX11 54 yX11_ofWho) ∈ wsL_law := kr_16 _ (List.mem_of_getElem? (i := 11) rfl)
theorem kw_16_12 : (Cond.instanceMethod yX11_ofWho) ∈ wsL_law := kr_16 _ (List.mem_of_getElem? (i := 12) rfl)
theorem kw_16_13 : (Cond.selects RX11 yX11_ofWho yX11_ofWho) ∈ wsL_law := kr_16 _ (List.mem_of_getElem? (i := 13) rfl)
theorem kw_16_14 : (Cond.code yX11_ofWho cX11_ofWho 3 (some .int)) ∈ wsL_law := kr_16 _ (List.mem_of_getElem? (i := 14) rfl)
theorem kw_16_15 : (Cond.methodLink RX11 86 yX11_ones) ∈ wsL_law := kr_16 _ (List.mem_of_getElem? (i := 15) rfl)
theorem kw_16_16 : (Cond.static yX11_ones) ∈ wsL_law := kr_16 _ (List.mem_of_getElem? (i := 16) rfl)
theorem kw_16_17 : (Cond.code yX11_ones cX11_ones 3 (some .int)) ∈ wsL_law := kr_16 _ (List.mem_of_getElem? (i := 17) rfl)
theorem kw_16_18 : (Cond.methodLink RL 40 yX10_override) ∈ wsL_law := kr_16 _ (List.mem_of_getElem? (i := 18) rfl)
theorem kw_16_19 : (Cond.instanceMethod yX10_override) ∈ wsL_law := kr_16 _ (List.mem_of_getElem? (i := 19) rfl)
theorem kw_16_20 : (Cond.selects RX10 yX10_override yX10_override) ∈ wsL_law := kr_16 _ (List.mem_of_getElem? (i := 20) rfl)
theorem kw_16_21 : (Cond.code yX10_override cX10_override 4 (some .int)) ∈ wsL_law := kr_16 _ (List.mem_of_getElem? (i := 21) rfl)
theorem kw_16_22 : (Cond.methodLink RX10 68 yX1_putStandIn) ∈ wsL_law := kr_16 _ (List.mem_of_getElem? (i := 22) rfl)
theorem kw_16_23 : (Cond.instanceMethod yX1_putStandIn) ∈ wsL_law := kr_16 _ (List.mem_of_getElem? (i := 23) rfl)
theorem kw_17_0 : (Cond.selects RX1 yX1_putStandIn yX1_putStandIn) ∈ wsL_law := kr_17 _ (List.mem_of_getElem? (i := 0) rfl)
theorem kw_17_1 : (Cond.code yX1_putStandIn cX1_putStandIn 4 (some .int)) ∈ wsL_law := kr_17 _ (List.mem_of_getElem? (i := 1) rfl)
theorem kw_17_2 : (Cond.methodLink RX1 62 yX5_hasRegion) ∈ wsL_law := kr_17 _ (List.mem_of_getElem? (i := 2) rfl)
theorem kw_17_3 : (Cond.methodLink RX1 66 yX5_hasPerson) ∈ wsL_law := kr_17 _ (List.mem_of_getElem? (i := 3) rfl)
theorem kw_17_4 : (Cond.methodLink RX1 69 yX5_addStandIn) ∈ wsL_law := kr_17 _ (List.mem_of_getElem? (i := 4) rfl)
theorem kw_17_5 : (Cond.instanceMethod yX5_addStandIn) ∈ wsL_law := kr_17 _ (List.mem_of_getElem? (i := 5) rfl)
theorem kw_17_6 : (Cond.selects RX5 yX5_addStandIn yX5_addStandIn) ∈ wsL_law := kr_17 _ (List.mem_of_getElem? (i := 6) rfl)
theorem kw_17_7 : (Cond.code yX5_addStandIn cX5_addStandIn 6 (some .int)) ∈ wsL_law := kr_17 _ (List.mem_of_getElem? (i := 7) rfl)
theorem kw_17_8 : (Cond.fieldLink RX5 104 "PageRotas$StandIn" "region" "I") ∈ wsL_law := kr_17 _ (List.mem_of_getElem? (i := 8) rfl)
theorem kw_17_9 : (Cond.fieldLink RX5 107 "PageRotas$StandIn" "person" "I") ∈ wsL_law := kr_17 _ (List.mem_of_getElem? (i := 9) rfl)
theorem kw_17_10 : (Cond.fieldLink RX5 110 "PageRotas$StandIn" "end" "I") ∈ wsL_law := kr_17 _ (List.mem_of_getElem? (i := 10) rfl)
theorem kw_17_11 : (Cond.methodLink RX5 100 yX5_dropEndedStandIns) ∈ wsL_law := kr_17 _ (List.mem_of_getElem? (i := 11) rfl)
theorem kw_17_12 : (Cond.instanceMethod yX5_dropEndedStandIns) ∈ wsL_law := kr_17 _ (List.mem_of_getElem? (i := 12) rfl)
theorem kw_17_13 : (Cond.selects RX5 yX5_dropEndedStandIns yX5_dropEndedStandIns) ∈ wsL_law := kr_17 _ (List.mem_of_getElem? (i := 13) rfl)
theorem kw_17_14 : (Cond.code yX5_dropEndedStandIns cX5_dropEndedStandIns 4 none) ∈ wsL_law := kr_17 _ (List.mem_of_getElem? (i := 14) rfl)
theorem kw_17_15 : (Cond.methodLink RX5 97 yX8_isInForce) ∈ wsL_law := kr_17 _ (List.mem_of_getElem? (i := 15) rfl)
theorem kw_17_16 : (Cond.instanceMethod yX8_isInForce) ∈ wsL_law := kr_17 _ (List.mem_of_getElem? (i := 16) rfl)
theorem kw_17_17 : (Cond.selects RX8 yX8_isInForce yX8_isInForce) ∈ wsL_law := kr_17 _ (List.mem_of_getElem? (i := 17) rfl)
theorem kw_17_18 : (Cond.code yX8_isInForce cX8_isInForce 2 (some .boolean)) ∈ wsL_law := kr_17 _ (List.mem_of_getElem? (i := 18) rfl)
theorem kw_17_19 : (Cond.methodLink RL 43 yX11_override) ∈ wsL_law := kr_17 _ (List.mem_of_getElem? (i := 19) rfl)
theorem kw_17_20 : (Cond.instanceMethod yX11_override) ∈ wsL_law := kr_17 _ (List.mem_of_getElem? (i := 20) rfl)
theorem kw_17_21 : (Cond.selects RX11 yX11_override yX11_override) ∈ wsL_law := kr_17 _ (List.mem_of_getElem? (i := 21) rfl)
theorem kw_17_22 : (Cond.code yX11_override cX11_override 4 (some .int)) ∈ wsL_law := kr_17 _ (List.mem_of_getElem? (i := 22) rfl)
theorem kw_17_23 : (Cond.methodLink RX11 133 yX11_overrides) ∈ wsL_law := kr_17 _ (List.mem_of_getElem? (i := 23) rfl)
theorem kw_18_0 : (Cond.instanceMethod yX11_overrides) ∈ wsL_law := kr_18 _ (List.mem_of_getElem? (i := 0) rfl)
theorem kw_18_1 : (Cond.selects RX11 yX11_overrides yX11_overrides) ∈ wsL_law := kr_18 _ (List.mem_of_getElem? (i := 1) rfl)
theorem kw_18_2 : (Cond.code yX11_overrides cX11_overrides 5 (some .int)) ∈ wsL_law := kr_18 _ (List.mem_of_getElem? (i := 2) rfl)
theorem kw_18_3 : (Cond.methodLink RX11 89 yX11_inForce) ∈ wsL_law := kr_18 _ (List.mem_of_getElem? (i := 3) rfl)
theorem kw_18_4 : (Cond.instanceMethod yX11_inForce) ∈ wsL_law := kr_18 _ (List.mem_of_getElem? (i := 4) rfl)
theorem kw_18_5 : (Cond.selects RX11 yX11_inForce yX11_inForce) ∈ wsL_law := kr_18 _ (List.mem_of_getElem? (i := 5) rfl)
theorem kw_18_6 : (Cond.code yX11_inForce cX11_inForce 3 (some .int)) ∈ wsL_law := kr_18 _ (List.mem_of_getElem? (i := 6) rfl)
theorem kw_18_7 : (Cond.methodLink RX11 93 yX11_clears) ∈ wsL_law := kr_18 _ (List.mem_of_getElem? (i := 7) rfl)
theorem kw_18_8 : (Cond.instanceMethod yX11_clears) ∈ wsL_law := kr_18 _ (List.mem_of_getElem? (i := 8) rfl)
theorem kw_18_9 : (Cond.selects RX11 yX11_clears yX11_clears) ∈ wsL_law := kr_18 _ (List.mem_of_getElem? (i := 9) rfl)
theorem kw_18_10 : (Cond.code yX11_clears cX11_clears 4 none) ∈ wsL_law := kr_18 _ (List.mem_of_getElem? (i := 10) rfl)
theorem kw_18_11 : (Cond.methodLink RL 44 yX10_rotaAt) ∈ wsL_law := kr_18 _ (List.mem_of_getElem? (i := 11) rfl)
theorem kw_18_12 : (Cond.instanceMethod yX10_rotaAt) ∈ wsL_law := kr_18 _ (List.mem_of_getElem? (i := 12) rfl)
theorem kw_18_13 : (Cond.selects RX10 yX10_rotaAt yX10_rotaAt) ∈ wsL_law := kr_18 _ (List.mem_of_getElem? (i := 13) rfl)
theorem kw_18_14 : (Cond.code yX10_rotaAt cX10_rotaAt 4 (some .int)) ∈ wsL_law := kr_18 _ (List.mem_of_getElem? (i := 14) rfl)
theorem kw_18_15 : (Cond.fieldLink RX10 75 "PageRotas$Rotas" "regions" "[LPageRotas$Region;") ∈ wsL_law := kr_18 _ (List.mem_of_getElem? (i := 15) rfl)
theorem kw_18_16 : (Cond.methodLink RX10 71 yX5_hasRegion) ∈ wsL_law := kr_18 _ (List.mem_of_getElem? (i := 16) rfl)
theorem kw_18_17 : (Cond.methodLink RX10 79 yX4_memberAt) ∈ wsL_law := kr_18 _ (List.mem_of_getElem? (i := 17) rfl)
theorem kw_18_18 : (Cond.instanceMethod yX4_memberAt) ∈ wsL_law := kr_18 _ (List.mem_of_getElem? (i := 18) rfl)
theorem kw_18_19 : (Cond.selects RX4 yX4_memberAt yX4_memberAt) ∈ wsL_law := kr_18 _ (List.mem_of_getElem? (i := 19) rfl)
theorem kw_18_20 : (Cond.code yX4_memberAt cX4_memberAt 2 (some .int)) ∈ wsL_law := kr_18 _ (List.mem_of_getElem? (i := 20) rfl)
theorem kw_18_21 : (Cond.methodLink RL 47 yX11_rotaAt) ∈ wsL_law := kr_18 _ (List.mem_of_getElem? (i := 21) rfl)
theorem kw_18_22 : (Cond.instanceMethod yX11_rotaAt) ∈ wsL_law := kr_18 _ (List.mem_of_getElem? (i := 22) rfl)
theorem kw_18_23 : (Cond.selects RX11 yX11_rotaAt yX11_rotaAt) ∈ wsL_law := kr_18 _ (List.mem_of_getElem? (i := 23) rfl)
theorem kw_19_0 : (Cond.code yX11_rotaAt cX11_rotaAt 3 (some .int)) ∈ wsL_law := kr_19 _ (List.mem_of_getElem? (i := 0) rfl)
theorem kw_19_1 : (Cond.methodLink RL 48 yX10_personOf) ∈ wsL_law := kr_19 _ (List.mem_of_getElem? (i := 1) rfl)
theorem kw_19_2 : (Cond.instanceMethod yX10_personOf) ∈ wsL_law := kr_19 _ (List.mem_of_getElem? (i := 2) rfl)
theorem kw_19_3 : (Cond.selects RX10 yX10_personOf yX10_personOf) ∈ wsL_law := kr_19 _ (List.mem_of_getElem? (i := 3) rfl)
theorem kw_19_4 : (Cond.code yX10_personOf cX10_personOf 4 (some .int)) ∈ wsL_law := kr_19 _ (List.mem_of_getElem? (i := 4) rfl)
theorem kw_19_5 : (Cond.fieldLink RX10 87 "PageRotas$Rotas" "people" "[LPageRotas$Person;") ∈ wsL_law := kr_19 _ (List.mem_of_getElem? (i := 5) rfl)
theorem kw_19_6 : (Cond.fieldLink RX10 91 "PageRotas$Person" "pages" "I") ∈ wsL_law := kr_19 _ (List.mem_of_getElem? (i := 6) rfl)
theorem kw_19_7 : (Cond.fieldLink RX10 101 "PageRotas$Person" "resolved" "I") ∈ wsL_law := kr_19 _ (List.mem_of_getElem? (i := 7) rfl)
theorem kw_19_8 : (Cond.fieldLink RX10 107 "PageRotas$Person" "quiet" "LPageRotas$Span;") ∈ wsL_law := kr_19 _ (List.mem_of_getElem? (i := 8) rfl)
theorem kw_19_9 : (Cond.fieldLink RX10 111 "PageRotas$House" "time" "I") ∈ wsL_law := kr_19 _ (List.mem_of_getElem? (i := 9) rfl)
theorem kw_19_10 : (Cond.fieldLink RX10 122 "PageRotas$Person" "exceptions" "I") ∈ wsL_law := kr_19 _ (List.mem_of_getElem? (i := 10) rfl)
theorem kw_19_11 : (Cond.methodLink RX10 84 yX5_hasPerson) ∈ wsL_law := kr_19 _ (List.mem_of_getElem? (i := 11) rfl)
theorem kw_19_12 : (Cond.methodLink RX10 97 yX1_ownedBy) ∈ wsL_law := kr_19 _ (List.mem_of_getElem? (i := 12) rfl)
theorem kw_19_13 : (Cond.instanceMethod yX1_ownedBy) ∈ wsL_law := kr_19 _ (List.mem_of_getElem? (i := 13) rfl)
theorem kw_19_14 : (Cond.selects RX1 yX1_ownedBy yX1_ownedBy) ∈ wsL_law := kr_19 _ (List.mem_of_getElem? (i := 14) rfl)
theorem kw_19_15 : (Cond.code yX1_ownedBy cX1_ownedBy 6 (some .int)) ∈ wsL_law := kr_19 _ (List.mem_of_getElem? (i := 15) rfl)
theorem kw_19_16 : (Cond.fieldLink RX1 52 "PageRotas$Incident" "open" "Z") ∈ wsL_law := kr_19 _ (List.mem_of_getElem? (i := 16) rfl)
theorem kw_19_17 : (Cond.fieldLink RX1 59 "PageRotas$Incident" "owner" "I") ∈ wsL_law := kr_19 _ (List.mem_of_getElem? (i := 17) rfl)
theorem kw_19_18 : (Cond.fieldLink RX1 56 "PageRotas$Incident" "acknowledged" "Z") ∈ wsL_law := kr_19 _ (List.mem_of_getElem? (i := 18) rfl)
theorem kw_19_19 : (Cond.methodLink RX10 104 yX5_regionsOf) ∈ wsL_law := kr_19 _ (List.mem_of_getElem? (i := 19) rfl)
theorem kw_19_20 : (Cond.instanceMethod yX5_regionsOf) ∈ wsL_law := kr_19 _ (List.mem_of_getElem? (i := 20) rfl)
theorem kw_19_21 : (Cond.selects RX5 yX5_regionsOf yX5_regionsOf) ∈ wsL_law := kr_19 _ (List.mem_of_getElem? (i := 21) rfl)
theorem kw_19_22 : (Cond.code yX5_regionsOf cX5_regionsOf 4 (some .int)) ∈ wsL_law := kr_19 _ (List.mem_of_getElem? (i := 22) rfl)
theorem kw_19_23 : (Cond.methodLink RX5 94 yX4_placeOf) ∈ wsL_law := kr_19 _ (List.mem_of_getElem? (i := 23) rfl)
theorem kw_20_0 : (Cond.methodLink RX10 114 yX10_hourOfDay) ∈ wsL_law := kr_20 _ (List.mem_of_getElem? (i := 0) rfl)
theorem kw_20_1 : (Cond.static yX10_hourOfDay) ∈ wsL_law := kr_20 _ (List.mem_of_getElem? (i := 1) rfl)
theorem kw_20_2 : (Cond.code yX10_hourOfDay cX10_hourOfDay 1 (some .int)) ∈ wsL_law := kr_20 _ (List.mem_of_getElem? (i := 2) rfl)
theorem kw_20_3 : (Cond.methodLink RX10 117 yX7_has) ∈ wsL_law := kr_20 _ (List.mem_of_getElem? (i := 3) rfl)
theorem kw_20_4 : (Cond.instanceMethod yX7_has) ∈ wsL_law := kr_20 _ (List.mem_of_getElem? (i := 4) rfl)
theorem kw_20_5 : (Cond.selects RX7 yX7_has yX7_has) ∈ wsL_law := kr_20 _ (List.mem_of_getElem? (i := 5) rfl)
theorem kw_20_6 : (Cond.code yX7_has cX7_has 2 (some .boolean)) ∈ wsL_law := kr_20 _ (List.mem_of_getElem? (i := 6) rfl)
theorem kw_20_7 : (Cond.methodLink RL 51 yX11_personOf) ∈ wsL_law := kr_20 _ (List.mem_of_getElem? (i := 7) rfl)
theorem kw_20_8 : (Cond.instanceMethod yX11_personOf) ∈ wsL_law := kr_20 _ (List.mem_of_getElem? (i := 8) rfl)
theorem kw_20_9 : (Cond.selects RX11 yX11_personOf yX11_personOf) ∈ wsL_law := kr_20 _ (List.mem_of_getElem? (i := 9) rfl)
theorem kw_20_10 : (Cond.code yX11_personOf cX11_personOf 3 (some .int)) ∈ wsL_law := kr_20 _ (List.mem_of_getElem? (i := 10) rfl)
theorem kw_20_11 : (Cond.methodLink RX11 151 yX11_ownedBy) ∈ wsL_law := kr_20 _ (List.mem_of_getElem? (i := 11) rfl)
theorem kw_20_12 : (Cond.instanceMethod yX11_ownedBy) ∈ wsL_law := kr_20 _ (List.mem_of_getElem? (i := 12) rfl)
theorem kw_20_13 : (Cond.selects RX11 yX11_ownedBy yX11_ownedBy) ∈ wsL_law := kr_20 _ (List.mem_of_getElem? (i := 13) rfl)
theorem kw_20_14 : (Cond.code yX11_ownedBy cX11_ownedBy 6 (some .int)) ∈ wsL_law := kr_20 _ (List.mem_of_getElem? (i := 14) rfl)
theorem kw_20_15 : (Cond.methodLink RX11 36 yX11_incidentAt) ∈ wsL_law := kr_20 _ (List.mem_of_getElem? (i := 15) rfl)
theorem kw_20_16 : (Cond.static yX11_incidentAt) ∈ wsL_law := kr_20 _ (List.mem_of_getElem? (i := 16) rfl)
theorem kw_20_17 : (Cond.code yX11_incidentAt cX11_incidentAt 1 (some .int)) ∈ wsL_law := kr_20 _ (List.mem_of_getElem? (i := 17) rfl)
theorem kw_20_18 : (Cond.methodLink RX11 70 yX11_isIncident) ∈ wsL_law := kr_20 _ (List.mem_of_getElem? (i := 18) rfl)
theorem kw_20_19 : (Cond.instanceMethod yX11_isIncident) ∈ wsL_law := kr_20 _ (List.mem_of_getElem? (i := 19) rfl)
theorem kw_20_20 : (Cond.selects RX11 yX11_isIncident yX11_isIncident) ∈ wsL_law := kr_20 _ (List.mem_of_getElem? (i := 20) rfl)
theorem kw_20_21 : (Cond.code yX11_isIncident cX11_isIncident 2 (some .boolean)) ∈ wsL_law := kr_20 _ (List.mem_of_getElem? (i := 21) rfl)
theorem kw_20_22 : (Cond.methodLink RX11 155 yX11_rotasOf) ∈ wsL_law := kr_20 _ (List.mem_of_getElem? (i := 22) rfl)
theorem kw_20_23 : (Cond.instanceMethod yX11_rotasOf) ∈ wsL_law := kr_20 _ (List.mem_of_getElem? (i := 23) rfl)
theorem kw_21_0 : (Cond.selects RX11 yX11_rotasOf yX11_rotasOf) ∈ wsL_law := kr_21 _ (List.mem_of_getElem? (i := 0) rfl)
theorem kw_21_1 : (Cond.code yX11_rotasOf cX11_rotasOf 4 (some .int)) ∈ wsL_law := kr_21 _ (List.mem_of_getElem? (i := 1) rfl)
theorem kw_21_2 : (Cond.methodLink RX11 60 yX11_isQuiet) ∈ wsL_law := kr_21 _ (List.mem_of_getElem? (i := 2) rfl)
theorem kw_21_3 : (Cond.instanceMethod yX11_isQuiet) ∈ wsL_law := kr_21 _ (List.mem_of_getElem? (i := 3) rfl)
theorem kw_21_4 : (Cond.selects RX11 yX11_isQuiet yX11_isQuiet) ∈ wsL_law := kr_21 _ (List.mem_of_getElem? (i := 4) rfl)
theorem kw_21_5 : (Cond.code yX11_isQuiet cX11_isQuiet 3 (some .boolean)) ∈ wsL_law := kr_21 _ (List.mem_of_getElem? (i := 5) rfl)
theorem kw_21_6 : (Cond.methodLink RX11 44 yX11_isWithin) ∈ wsL_law := kr_21 _ (List.mem_of_getElem? (i := 6) rfl)
theorem kw_21_7 : (Cond.static yX11_isWithin) ∈ wsL_law := kr_21 _ (List.mem_of_getElem? (i := 7) rfl)
theorem kw_21_8 : (Cond.code yX11_isWithin cX11_isWithin 3 (some .boolean)) ∈ wsL_law := kr_21 _ (List.mem_of_getElem? (i := 8) rfl)
theorem kw_21_9 : (Cond.methodLink RL 52 yX10_alert) ∈ wsL_law := kr_21 _ (List.mem_of_getElem? (i := 9) rfl)
theorem kw_21_10 : (Cond.instanceMethod yX10_alert) ∈ wsL_law := kr_21 _ (List.mem_of_getElem? (i := 10) rfl)
theorem kw_21_11 : (Cond.selects RX10 yX10_alert yX10_alert) ∈ wsL_law := kr_21 _ (List.mem_of_getElem? (i := 11) rfl)
theorem kw_21_12 : (Cond.code yX10_alert cX10_alert 3 (some .int)) ∈ wsL_law := kr_21 _ (List.mem_of_getElem? (i := 12) rfl)
theorem kw_21_13 : (Cond.methodLink RX10 125 yX1_takeAlert) ∈ wsL_law := kr_21 _ (List.mem_of_getElem? (i := 13) rfl)
theorem kw_21_14 : (Cond.instanceMethod yX1_takeAlert) ∈ wsL_law := kr_21 _ (List.mem_of_getElem? (i := 14) rfl)
theorem kw_21_15 : (Cond.selects RX1 yX1_takeAlert yX1_takeAlert) ∈ wsL_law := kr_21 _ (List.mem_of_getElem? (i := 15) rfl)
theorem kw_21_16 : (Cond.code yX1_takeAlert cX1_takeAlert 5 (some .int)) ∈ wsL_law := kr_21 _ (List.mem_of_getElem? (i := 16) rfl)
theorem kw_21_17 : (Cond.fieldLink RX1 73 "PageRotas$Incident" "cause" "I") ∈ wsL_law := kr_21 _ (List.mem_of_getElem? (i := 17) rfl)
theorem kw_21_18 : (Cond.fieldLink RX1 76 "PageRotas$Incident" "latestAlert" "I") ∈ wsL_law := kr_21 _ (List.mem_of_getElem? (i := 18) rfl)
theorem kw_21_19 : (Cond.fieldLink RX1 95 "PageRotas$Totals" "alerts" "I") ∈ wsL_law := kr_21 _ (List.mem_of_getElem? (i := 19) rfl)
theorem kw_21_20 : (Cond.methodLink RX1 79 yX1_fold) ∈ wsL_law := kr_21 _ (List.mem_of_getElem? (i := 20) rfl)
theorem kw_21_21 : (Cond.instanceMethod yX1_fold) ∈ wsL_law := kr_21 _ (List.mem_of_getElem? (i := 21) rfl)
theorem kw_21_22 : (Cond.selects RX1 yX1_fold yX1_fold) ∈ wsL_law := kr_21 _ (List.mem_of_getElem? (i := 22) rfl)
theorem kw_21_23 : (Cond.code yX1_fold cX1_fold 3 (some .boolean)) ∈ wsL_law := kr_21 _ (List.mem_of_getElem? (i := 23) rfl)
theorem kw_22_0 : (Cond.fieldLink RX1 98 "PageRotas$Incident" "alerts" "I") ∈ wsL_law := kr_22 _ (List.mem_of_getElem? (i := 0) rfl)
theorem kw_22_1 : (Cond.fieldLink RX1 99 "PageRotas$Totals" "folded" "I") ∈ wsL_law := kr_22 _ (List.mem_of_getElem? (i := 1) rfl)
theorem kw_22_2 : (Cond.fieldLink RX1 102 "PageRotas$Incident" "severity" "I") ∈ wsL_law := kr_22 _ (List.mem_of_getElem? (i := 2) rfl)
theorem kw_22_3 : (Cond.methodLink RX1 83 yX5_regionAt) ∈ wsL_law := kr_22 _ (List.mem_of_getElem? (i := 3) rfl)
theorem kw_22_4 : (Cond.instanceMethod yX5_regionAt) ∈ wsL_law := kr_22 _ (List.mem_of_getElem? (i := 4) rfl)
theorem kw_22_5 : (Cond.selects RX5 yX5_regionAt yX5_regionAt) ∈ wsL_law := kr_22 _ (List.mem_of_getElem? (i := 5) rfl)
theorem kw_22_6 : (Cond.code yX5_regionAt cX5_regionAt 4 (some .int)) ∈ wsL_law := kr_22 _ (List.mem_of_getElem? (i := 6) rfl)
theorem kw_22_7 : (Cond.methodLink RX5 116 yX4_covers) ∈ wsL_law := kr_22 _ (List.mem_of_getElem? (i := 7) rfl)
theorem kw_22_8 : (Cond.instanceMethod yX4_covers) ∈ wsL_law := kr_22 _ (List.mem_of_getElem? (i := 8) rfl)
theorem kw_22_9 : (Cond.selects RX4 yX4_covers yX4_covers) ∈ wsL_law := kr_22 _ (List.mem_of_getElem? (i := 9) rfl)
theorem kw_22_10 : (Cond.code yX4_covers cX4_covers 2 (some .boolean)) ∈ wsL_law := kr_22 _ (List.mem_of_getElem? (i := 10) rfl)
theorem kw_22_11 : (Cond.methodLink RX4 45 yX7_has) ∈ wsL_law := kr_22 _ (List.mem_of_getElem? (i := 11) rfl)
theorem kw_22_12 : (Cond.methodLink RX1 87 yX1_page) ∈ wsL_law := kr_22 _ (List.mem_of_getElem? (i := 12) rfl)
theorem kw_22_13 : (Cond.instanceMethod yX1_page) ∈ wsL_law := kr_22 _ (List.mem_of_getElem? (i := 13) rfl)
theorem kw_22_14 : (Cond.selects RX1 yX1_page yX1_page) ∈ wsL_law := kr_22 _ (List.mem_of_getElem? (i := 14) rfl)
theorem kw_22_15 : (Cond.code yX1_page cX1_page 5 none) ∈ wsL_law := kr_22 _ (List.mem_of_getElem? (i := 15) rfl)
theorem kw_22_16 : (Cond.fieldLink RX1 105 "PageRotas$Incident" "region" "I") ∈ wsL_law := kr_22 _ (List.mem_of_getElem? (i := 16) rfl)
theorem kw_22_17 : (Cond.fieldLink RX1 108 "PageRotas$Incident" "level" "I") ∈ wsL_law := kr_22 _ (List.mem_of_getElem? (i := 17) rfl)
theorem kw_22_18 : (Cond.fieldLink RX1 115 "PageRotas$Rotas" "people" "[LPageRotas$Person;") ∈ wsL_law := kr_22 _ (List.mem_of_getElem? (i := 18) rfl)
theorem kw_22_19 : (Cond.fieldLink RX1 128 "PageRotas$Incident" "pagedAt" "I") ∈ wsL_law := kr_22 _ (List.mem_of_getElem? (i := 19) rfl)
theorem kw_22_20 : (Cond.fieldLink RX1 131 "PageRotas$Person" "pages" "I") ∈ wsL_law := kr_22 _ (List.mem_of_getElem? (i := 20) rfl)
theorem kw_22_21 : (Cond.fieldLink RX1 134 "PageRotas$Totals" "pages" "I") ∈ wsL_law := kr_22 _ (List.mem_of_getElem? (i := 21) rfl)
theorem kw_22_22 : (Cond.methodLink RX1 111 yX5_personAt) ∈ wsL_law := kr_22 _ (List.mem_of_getElem? (i := 22) rfl)
theorem kw_22_23 : (Cond.instanceMethod yX5_personAt) ∈ wsL_law := kr_22 _ (List.mem_of_getElem? (i := 23) rfl)
theorem kw_23_0 : (Cond.selects RX5 yX5_personAt yX5_personAt) ∈ wsL_law := kr_23 _ (List.mem_of_getElem? (i := 0) rfl)
theorem kw_23_1 : (Cond.code yX5_personAt cX5_personAt 5 (some .int)) ∈ wsL_law := kr_23 _ (List.mem_of_getElem? (i := 1) rfl)
theorem kw_23_2 : (Cond.methodLink RX5 119 Lib.Math.min.name) ∈ wsL_law := kr_23 _ (List.mem_of_getElem? (i := 2) rfl)
theorem kw_23_3 : (Cond.static Lib.Math.min.name) ∈ wsL_law := kr_23 _ (List.mem_of_getElem? (i := 3) rfl)
theorem kw_23_4 : (Cond.initialized "java/lang/Math") ∈ wsL_law := kr_23 _ (List.mem_of_getElem? (i := 4) rfl)
theorem kw_23_5 : (Cond.code Lib.Math.min.name Lib.Math.min.code 2 (some .int)) ∈ wsL_law := kr_23 _ (List.mem_of_getElem? (i := 5) rfl)
theorem kw_23_6 : (Cond.fieldLink RX5 125 "PageRotas$Region" "shift" "I") ∈ wsL_law := kr_23 _ (List.mem_of_getElem? (i := 6) rfl)
theorem kw_23_7 : (Cond.fieldLink RX5 128 "PageRotas$Region" "size" "I") ∈ wsL_law := kr_23 _ (List.mem_of_getElem? (i := 7) rfl)
theorem kw_23_8 : (Cond.methodLink RX5 131 yX4_memberAt) ∈ wsL_law := kr_23 _ (List.mem_of_getElem? (i := 8) rfl)
theorem kw_23_9 : (Cond.methodLink RX1 122 yX3_sleepsThrough) ∈ wsL_law := kr_23 _ (List.mem_of_getElem? (i := 9) rfl)
theorem kw_23_10 : (Cond.instanceMethod yX3_sleepsThrough) ∈ wsL_law := kr_23 _ (List.mem_of_getElem? (i := 10) rfl)
theorem kw_23_11 : (Cond.selects RX3 yX3_sleepsThrough yX3_sleepsThrough) ∈ wsL_law := kr_23 _ (List.mem_of_getElem? (i := 11) rfl)
theorem kw_23_12 : (Cond.code yX3_sleepsThrough cX3_sleepsThrough 4 (some .boolean)) ∈ wsL_law := kr_23 _ (List.mem_of_getElem? (i := 12) rfl)
theorem kw_23_13 : (Cond.methodLink RX3 36 yX7_has) ∈ wsL_law := kr_23 _ (List.mem_of_getElem? (i := 13) rfl)
theorem kw_23_14 : (Cond.methodLink RX1 91 yX2_makeNew) ∈ wsL_law := kr_23 _ (List.mem_of_getElem? (i := 14) rfl)
theorem kw_23_15 : (Cond.instanceMethod yX2_makeNew) ∈ wsL_law := kr_23 _ (List.mem_of_getElem? (i := 15) rfl)
theorem kw_23_16 : (Cond.selects RX2 yX2_makeNew yX2_makeNew) ∈ wsL_law := kr_23 _ (List.mem_of_getElem? (i := 16) rfl)
theorem kw_23_17 : (Cond.code yX2_makeNew cX2_makeNew 4 none) ∈ wsL_law := kr_23 _ (List.mem_of_getElem? (i := 17) rfl)
theorem kw_23_18 : (Cond.methodLink RL 55 yX11_alert) ∈ wsL_law := kr_23 _ (List.mem_of_getElem? (i := 18) rfl)
theorem kw_23_19 : (Cond.instanceMethod yX11_alert) ∈ wsL_law := kr_23 _ (List.mem_of_getElem? (i := 19) rfl)
theorem kw_23_20 : (Cond.selects RX11 yX11_alert yX11_alert) ∈ wsL_law := kr_23 _ (List.mem_of_getElem? (i := 20) rfl)
theorem kw_23_21 : (Cond.code yX11_alert cX11_alert 3 (some .int)) ∈ wsL_law := kr_23 _ (List.mem_of_getElem? (i := 21) rfl)
theorem kw_23_22 : (Cond.methodLink RX11 136 yX11_alerts) ∈ wsL_law := kr_23 _ (List.mem_of_getElem? (i := 22) rfl)
theorem kw_23_23 : (Cond.instanceMethod yX11_alerts) ∈ wsL_law := kr_23 _ (List.mem_of_getElem? (i := 23) rfl)
theorem kw_24_0 : (Cond.selects RX11 yX11_alerts yX11_alerts) ∈ wsL_law := kr_24 _ (List.mem_of_getElem? (i := 0) rfl)
theorem kw_24_1 : (Cond.code yX11_alerts cX11_alerts 6 (some .int)) ∈ wsL_law := kr_24 _ (List.mem_of_getElem? (i := 1) rfl)
theorem kw_24_2 : (Cond.methodLink RX11 99 yX11_foldsInto) ∈ wsL_law := kr_24 _ (List.mem_of_getElem? (i := 2) rfl)
theorem kw_24_3 : (Cond.instanceMethod yX11_foldsInto) ∈ wsL_law := kr_24 _ (List.mem_of_getElem? (i := 3) rfl)
theorem kw_24_4 : (Cond.selects RX11 yX11_foldsInto yX11_foldsInto) ∈ wsL_law := kr_24 _ (List.mem_of_getElem? (i := 4) rfl)
theorem kw_24_5 : (Cond.code yX11_foldsInto cX11_foldsInto 4 (some .int)) ∈ wsL_law := kr_24 _ (List.mem_of_getElem? (i := 5) rfl)
theorem kw_24_6 : (Cond.methodLink RX11 102 yX11_opens) ∈ wsL_law := kr_24 _ (List.mem_of_getElem? (i := 6) rfl)
theorem kw_24_7 : (Cond.instanceMethod yX11_opens) ∈ wsL_law := kr_24 _ (List.mem_of_getElem? (i := 7) rfl)
theorem kw_24_8 : (Cond.selects RX11 yX11_opens yX11_opens) ∈ wsL_law := kr_24 _ (List.mem_of_getElem? (i := 8) rfl)
theorem kw_24_9 : (Cond.code yX11_opens cX11_opens 6 (some .int)) ∈ wsL_law := kr_24 _ (List.mem_of_getElem? (i := 9) rfl)
theorem kw_24_10 : (Cond.methodLink RX11 96 yX11_lowestFree) ∈ wsL_law := kr_24 _ (List.mem_of_getElem? (i := 10) rfl)
theorem kw_24_11 : (Cond.instanceMethod yX11_lowestFree) ∈ wsL_law := kr_24 _ (List.mem_of_getElem? (i := 11) rfl)
theorem kw_24_12 : (Cond.selects RX11 yX11_lowestFree yX11_lowestFree) ∈ wsL_law := kr_24 _ (List.mem_of_getElem? (i := 12) rfl)
theorem kw_24_13 : (Cond.code yX11_lowestFree cX11_lowestFree 3 (some .int)) ∈ wsL_law := kr_24 _ (List.mem_of_getElem? (i := 13) rfl)
theorem kw_24_14 : (Cond.methodLink RX11 66 yX11_pages) ∈ wsL_law := kr_24 _ (List.mem_of_getElem? (i := 14) rfl)
theorem kw_24_15 : (Cond.instanceMethod yX11_pages) ∈ wsL_law := kr_24 _ (List.mem_of_getElem? (i := 15) rfl)
theorem kw_24_16 : (Cond.selects RX11 yX11_pages yX11_pages) ∈ wsL_law := kr_24 _ (List.mem_of_getElem? (i := 16) rfl)
theorem kw_24_17 : (Cond.code yX11_pages cX11_pages 5 none) ∈ wsL_law := kr_24 _ (List.mem_of_getElem? (i := 17) rfl)
theorem kw_24_18 : (Cond.methodLink RX11 57 yX11_personAt) ∈ wsL_law := kr_24 _ (List.mem_of_getElem? (i := 18) rfl)
theorem kw_24_19 : (Cond.instanceMethod yX11_personAt) ∈ wsL_law := kr_24 _ (List.mem_of_getElem? (i := 19) rfl)
theorem kw_24_20 : (Cond.selects RX11 yX11_personAt yX11_personAt) ∈ wsL_law := kr_24 _ (List.mem_of_getElem? (i := 20) rfl)
theorem kw_24_21 : (Cond.code yX11_personAt cX11_personAt 7 (some .int)) ∈ wsL_law := kr_24 _ (List.mem_of_getElem? (i := 21) rfl)
theorem kw_24_22 : (Cond.methodLink RX11 51 yX11_regionAt) ∈ wsL_law := kr_24 _ (List.mem_of_getElem? (i := 22) rfl)
theorem kw_24_23 : (Cond.instanceMethod yX11_regionAt) ∈ wsL_law := kr_24 _ (List.mem_of_getElem? (i := 23) rfl)
theorem kw_25_0 : (Cond.selects RX11 yX11_regionAt yX11_regionAt) ∈ wsL_law := kr_25 _ (List.mem_of_getElem? (i := 0) rfl)
theorem kw_25_1 : (Cond.code yX11_regionAt cX11_regionAt 4 (some .int)) ∈ wsL_law := kr_25 _ (List.mem_of_getElem? (i := 1) rfl)
theorem kw_25_2 : (Cond.methodLink RX11 47 yX11_covers) ∈ wsL_law := kr_25 _ (List.mem_of_getElem? (i := 2) rfl)
theorem kw_25_3 : (Cond.instanceMethod yX11_covers) ∈ wsL_law := kr_25 _ (List.mem_of_getElem? (i := 3) rfl)
theorem kw_25_4 : (Cond.selects RX11 yX11_covers yX11_covers) ∈ wsL_law := kr_25 _ (List.mem_of_getElem? (i := 4) rfl)
theorem kw_25_5 : (Cond.code yX11_covers cX11_covers 3 (some .boolean)) ∈ wsL_law := kr_25 _ (List.mem_of_getElem? (i := 5) rfl)
theorem kw_25_6 : (Cond.methodLink RX11 63 yX11_isException) ∈ wsL_law := kr_25 _ (List.mem_of_getElem? (i := 6) rfl)
theorem kw_25_7 : (Cond.instanceMethod yX11_isException) ∈ wsL_law := kr_25 _ (List.mem_of_getElem? (i := 7) rfl)
theorem kw_25_8 : (Cond.selects RX11 yX11_isException yX11_isException) ∈ wsL_law := kr_25 _ (List.mem_of_getElem? (i := 8) rfl)
theorem kw_25_9 : (Cond.code yX11_isException cX11_isException 3 (some .boolean)) ∈ wsL_law := kr_25 _ (List.mem_of_getElem? (i := 9) rfl)
theorem kw_25_10 : (Cond.methodLink RL 56 yX10_acknowledge) ∈ wsL_law := kr_25 _ (List.mem_of_getElem? (i := 10) rfl)
theorem kw_25_11 : (Cond.instanceMethod yX10_acknowledge) ∈ wsL_law := kr_25 _ (List.mem_of_getElem? (i := 11) rfl)
theorem kw_25_12 : (Cond.selects RX10 yX10_acknowledge yX10_acknowledge) ∈ wsL_law := kr_25 _ (List.mem_of_getElem? (i := 12) rfl)
theorem kw_25_13 : (Cond.code yX10_acknowledge cX10_acknowledge 2 (some .int)) ∈ wsL_law := kr_25 _ (List.mem_of_getElem? (i := 13) rfl)
theorem kw_25_14 : (Cond.methodLink RX10 128 yX1_takeAcknowledgement) ∈ wsL_law := kr_25 _ (List.mem_of_getElem? (i := 14) rfl)
theorem kw_25_15 : (Cond.instanceMethod yX1_takeAcknowledgement) ∈ wsL_law := kr_25 _ (List.mem_of_getElem? (i := 15) rfl)
theorem kw_25_16 : (Cond.selects RX1 yX1_takeAcknowledgement yX1_takeAcknowledgement) ∈ wsL_law := kr_25 _ (List.mem_of_getElem? (i := 16) rfl)
theorem kw_25_17 : (Cond.code yX1_takeAcknowledgement cX1_takeAcknowledgement 4 (some .int)) ∈ wsL_law := kr_25 _ (List.mem_of_getElem? (i := 17) rfl)
theorem kw_25_18 : (Cond.fieldLink RX1 138 "PageRotas$Totals" "acknowledgements" "I") ∈ wsL_law := kr_25 _ (List.mem_of_getElem? (i := 18) rfl)
theorem kw_25_19 : (Cond.fieldLink RX1 141 "PageRotas$Totals" "minutesToAcknowledge" "I") ∈ wsL_law := kr_25 _ (List.mem_of_getElem? (i := 19) rfl)
theorem kw_25_20 : (Cond.methodLink RX1 135 yX1_isOpen) ∈ wsL_law := kr_25 _ (List.mem_of_getElem? (i := 20) rfl)
theorem kw_25_21 : (Cond.instanceMethod yX1_isOpen) ∈ wsL_law := kr_25 _ (List.mem_of_getElem? (i := 21) rfl)
theorem kw_25_22 : (Cond.selects RX1 yX1_isOpen yX1_isOpen) ∈ wsL_law := kr_25 _ (List.mem_of_getElem? (i := 22) rfl)
theorem kw_25_23 : (Cond.code yX1_isOpen cX1_isOpen 2 (some .boolean)) ∈ wsL_law := kr_25 _ (List.mem_of_getElem? (i := 23) rfl)
theorem kw_26_0 : (Cond.methodLink RL 60 yX11_acknowledge) ∈ wsL_law := kr_26 _ (List.mem_of_getElem? (i := 0) rfl)
theorem kw_26_1 : (Cond.instanceMethod yX11_acknowledge) ∈ wsL_law := kr_26 _ (List.mem_of_getElem? (i := 1) rfl)
theorem kw_26_2 : (Cond.selects RX11 yX11_acknowledge yX11_acknowledge) ∈ wsL_law := kr_26 _ (List.mem_of_getElem? (i := 2) rfl)
theorem kw_26_3 : (Cond.code yX11_acknowledge cX11_acknowledge 2 (some .int)) ∈ wsL_law := kr_26 _ (List.mem_of_getElem? (i := 3) rfl)
theorem kw_26_4 : (Cond.methodLink RX11 139 yX11_acknowledges) ∈ wsL_law := kr_26 _ (List.mem_of_getElem? (i := 4) rfl)
theorem kw_26_5 : (Cond.instanceMethod yX11_acknowledges) ∈ wsL_law := kr_26 _ (List.mem_of_getElem? (i := 5) rfl)
theorem kw_26_6 : (Cond.selects RX11 yX11_acknowledges yX11_acknowledges) ∈ wsL_law := kr_26 _ (List.mem_of_getElem? (i := 6) rfl)
theorem kw_26_7 : (Cond.code yX11_acknowledges cX11_acknowledges 4 (some .int)) ∈ wsL_law := kr_26 _ (List.mem_of_getElem? (i := 7) rfl)
theorem kw_26_8 : (Cond.methodLink RL 61 yX10_resolve) ∈ wsL_law := kr_26 _ (List.mem_of_getElem? (i := 8) rfl)
theorem kw_26_9 : (Cond.instanceMethod yX10_resolve) ∈ wsL_law := kr_26 _ (List.mem_of_getElem? (i := 9) rfl)
theorem kw_26_10 : (Cond.selects RX10 yX10_resolve yX10_resolve) ∈ wsL_law := kr_26 _ (List.mem_of_getElem? (i := 10) rfl)
theorem kw_26_11 : (Cond.code yX10_resolve cX10_resolve 2 (some .int)) ∈ wsL_law := kr_26 _ (List.mem_of_getElem? (i := 11) rfl)
theorem kw_26_12 : (Cond.methodLink RX10 131 yX1_close) ∈ wsL_law := kr_26 _ (List.mem_of_getElem? (i := 12) rfl)
theorem kw_26_13 : (Cond.instanceMethod yX1_close) ∈ wsL_law := kr_26 _ (List.mem_of_getElem? (i := 13) rfl)
theorem kw_26_14 : (Cond.selects RX1 yX1_close yX1_close) ∈ wsL_law := kr_26 _ (List.mem_of_getElem? (i := 14) rfl)
theorem kw_26_15 : (Cond.code yX1_close cX1_close 3 (some .int)) ∈ wsL_law := kr_26 _ (List.mem_of_getElem? (i := 15) rfl)
theorem kw_26_16 : (Cond.fieldLink RX1 144 "PageRotas$Totals" "resolved" "I") ∈ wsL_law := kr_26 _ (List.mem_of_getElem? (i := 16) rfl)
theorem kw_26_17 : (Cond.fieldLink RX1 147 "PageRotas$Person" "resolved" "I") ∈ wsL_law := kr_26 _ (List.mem_of_getElem? (i := 17) rfl)
theorem kw_26_18 : (Cond.fieldLink RX1 148 "PageRotas$Incident" "firstAlert" "I") ∈ wsL_law := kr_26 _ (List.mem_of_getElem? (i := 18) rfl)
theorem kw_26_19 : (Cond.methodLink RL 64 yX11_resolve) ∈ wsL_law := kr_26 _ (List.mem_of_getElem? (i := 19) rfl)
theorem kw_26_20 : (Cond.instanceMethod yX11_resolve) ∈ wsL_law := kr_26 _ (List.mem_of_getElem? (i := 20) rfl)
theorem kw_26_21 : (Cond.selects RX11 yX11_resolve yX11_resolve) ∈ wsL_law := kr_26 _ (List.mem_of_getElem? (i := 21) rfl)
theorem kw_26_22 : (Cond.code yX11_resolve cX11_resolve 2 (some .int)) ∈ wsL_law := kr_26 _ (List.mem_of_getElem? (i := 22) rfl)
theorem kw_26_23 : (Cond.methodLink RX11 142 yX11_resolves) ∈ wsL_law := kr_26 _ (List.mem_of_getElem? (i := 23) rfl)
theorem kw_27_0 : (Cond.instanceMethod yX11_resolves) ∈ wsL_law := kr_27 _ (List.mem_of_getElem? (i := 0) rfl)
theorem kw_27_1 : (Cond.selects RX11 yX11_resolves yX11_resolves) ∈ wsL_law := kr_27 _ (List.mem_of_getElem? (i := 1) rfl)
theorem kw_27_2 : (Cond.code yX11_resolves cX11_resolves 4 (some .int)) ∈ wsL_law := kr_27 _ (List.mem_of_getElem? (i := 2) rfl)
theorem kw_27_3 : (Cond.methodLink RL 65 yX10_pass) ∈ wsL_law := kr_27 _ (List.mem_of_getElem? (i := 3) rfl)
theorem kw_27_4 : (Cond.instanceMethod yX10_pass) ∈ wsL_law := kr_27 _ (List.mem_of_getElem? (i := 4) rfl)
theorem kw_27_5 : (Cond.selects RX10 yX10_pass yX10_pass) ∈ wsL_law := kr_27 _ (List.mem_of_getElem? (i := 5) rfl)
theorem kw_27_6 : (Cond.code yX10_pass cX10_pass 2 (some .int)) ∈ wsL_law := kr_27 _ (List.mem_of_getElem? (i := 6) rfl)
theorem kw_27_7 : (Cond.methodLink RX10 134 yX1_letPass) ∈ wsL_law := kr_27 _ (List.mem_of_getElem? (i := 7) rfl)
theorem kw_27_8 : (Cond.instanceMethod yX1_letPass) ∈ wsL_law := kr_27 _ (List.mem_of_getElem? (i := 8) rfl)
theorem kw_27_9 : (Cond.selects RX1 yX1_letPass yX1_letPass) ∈ wsL_law := kr_27 _ (List.mem_of_getElem? (i := 9) rfl)
theorem kw_27_10 : (Cond.code yX1_letPass cX1_letPass 6 (some .int)) ∈ wsL_law := kr_27 _ (List.mem_of_getElem? (i := 10) rfl)
theorem kw_27_11 : (Cond.methodLink RX1 151 yX1_age) ∈ wsL_law := kr_27 _ (List.mem_of_getElem? (i := 11) rfl)
theorem kw_27_12 : (Cond.instanceMethod yX1_age) ∈ wsL_law := kr_27 _ (List.mem_of_getElem? (i := 12) rfl)
theorem kw_27_13 : (Cond.selects RX1 yX1_age yX1_age) ∈ wsL_law := kr_27 _ (List.mem_of_getElem? (i := 13) rfl)
theorem kw_27_14 : (Cond.code yX1_age cX1_age 3 (some .boolean)) ∈ wsL_law := kr_27 _ (List.mem_of_getElem? (i := 14) rfl)
theorem kw_27_15 : (Cond.fieldLink RX1 154 "PageRotas$Totals" "open" "I") ∈ wsL_law := kr_27 _ (List.mem_of_getElem? (i := 15) rfl)
theorem kw_27_16 : (Cond.fieldLink RX1 156 "PageRotas$Incident" "unowned" "I") ∈ wsL_law := kr_27 _ (List.mem_of_getElem? (i := 16) rfl)
theorem kw_27_17 : (Cond.fieldLink RX1 159 "PageRotas$Totals" "unowned" "I") ∈ wsL_law := kr_27 _ (List.mem_of_getElem? (i := 17) rfl)
theorem kw_27_18 : (Cond.fieldLink RX1 160 "PageRotas$Incident" "handOffs" "I") ∈ wsL_law := kr_27 _ (List.mem_of_getElem? (i := 18) rfl)
theorem kw_27_19 : (Cond.fieldLink RX1 163 "PageRotas$Totals" "handOffs" "I") ∈ wsL_law := kr_27 _ (List.mem_of_getElem? (i := 19) rfl)
theorem kw_27_20 : (Cond.fieldLink RX1 164 "PageRotas$Incident" "escalations" "I") ∈ wsL_law := kr_27 _ (List.mem_of_getElem? (i := 20) rfl)
theorem kw_27_21 : (Cond.fieldLink RX1 167 "PageRotas$Totals" "escalations" "I") ∈ wsL_law := kr_27 _ (List.mem_of_getElem? (i := 21) rfl)
theorem kw_27_22 : (Cond.methodLink RL 68 yX11_pass) ∈ wsL_law := kr_27 _ (List.mem_of_getElem? (i := 22) rfl)
theorem kw_27_23 : (Cond.instanceMethod yX11_pass) ∈ wsL_law := kr_27 _ (List.mem_of_getElem? (i := 23) rfl)
theorem kw_28_0 : (Cond.selects RX11 yX11_pass yX11_pass) ∈ wsL_law := kr_28 _ (List.mem_of_getElem? (i := 0) rfl)
theorem kw_28_1 : (Cond.code yX11_pass cX11_pass 2 (some .int)) ∈ wsL_law := kr_28 _ (List.mem_of_getElem? (i := 1) rfl)
theorem kw_28_2 : (Cond.methodLink RX11 145 yX11_passes) ∈ wsL_law := kr_28 _ (List.mem_of_getElem? (i := 2) rfl)
theorem kw_28_3 : (Cond.instanceMethod yX11_passes) ∈ wsL_law := kr_28 _ (List.mem_of_getElem? (i := 3) rfl)
theorem kw_28_4 : (Cond.selects RX11 yX11_passes yX11_passes) ∈ wsL_law := kr_28 _ (List.mem_of_getElem? (i := 4) rfl)
theorem kw_28_5 : (Cond.code yX11_passes cX11_passes 4 (some .int)) ∈ wsL_law := kr_28 _ (List.mem_of_getElem? (i := 5) rfl)
theorem kw_28_6 : (Cond.methodLink RX11 105 yX11_minute) ∈ wsL_law := kr_28 _ (List.mem_of_getElem? (i := 6) rfl)
theorem kw_28_7 : (Cond.instanceMethod yX11_minute) ∈ wsL_law := kr_28 _ (List.mem_of_getElem? (i := 7) rfl)
theorem kw_28_8 : (Cond.selects RX11 yX11_minute yX11_minute) ∈ wsL_law := kr_28 _ (List.mem_of_getElem? (i := 8) rfl)
theorem kw_28_9 : (Cond.code yX11_minute cX11_minute 2 none) ∈ wsL_law := kr_28 _ (List.mem_of_getElem? (i := 9) rfl)
theorem kw_28_10 : (Cond.methodLink RX11 74 yX11_minuteOf) ∈ wsL_law := kr_28 _ (List.mem_of_getElem? (i := 10) rfl)
theorem kw_28_11 : (Cond.instanceMethod yX11_minuteOf) ∈ wsL_law := kr_28 _ (List.mem_of_getElem? (i := 11) rfl)
theorem kw_28_12 : (Cond.selects RX11 yX11_minuteOf yX11_minuteOf) ∈ wsL_law := kr_28 _ (List.mem_of_getElem? (i := 12) rfl)
theorem kw_28_13 : (Cond.code yX11_minuteOf cX11_minuteOf 5 none) ∈ wsL_law := kr_28 _ (List.mem_of_getElem? (i := 13) rfl)
theorem kw_28_14 : (Cond.methodLink RL 69 yX10_set) ∈ wsL_law := kr_28 _ (List.mem_of_getElem? (i := 14) rfl)
theorem kw_28_15 : (Cond.instanceMethod yX10_set) ∈ wsL_law := kr_28 _ (List.mem_of_getElem? (i := 15) rfl)
theorem kw_28_16 : (Cond.selects RX10 yX10_set yX10_set) ∈ wsL_law := kr_28 _ (List.mem_of_getElem? (i := 16) rfl)
theorem kw_28_17 : (Cond.code yX10_set cX10_set 3 (some .int)) ∈ wsL_law := kr_28 _ (List.mem_of_getElem? (i := 17) rfl)
theorem kw_28_18 : (Cond.methodLink RX10 137 yX1_putSetting) ∈ wsL_law := kr_28 _ (List.mem_of_getElem? (i := 18) rfl)
theorem kw_28_19 : (Cond.instanceMethod yX1_putSetting) ∈ wsL_law := kr_28 _ (List.mem_of_getElem? (i := 19) rfl)
theorem kw_28_20 : (Cond.selects RX1 yX1_putSetting yX1_putSetting) ∈ wsL_law := kr_28 _ (List.mem_of_getElem? (i := 20) rfl)
theorem kw_28_21 : (Cond.code yX1_putSetting cX1_putSetting 4 (some .int)) ∈ wsL_law := kr_28 _ (List.mem_of_getElem? (i := 21) rfl)
theorem kw_28_22 : (Cond.methodLink RL 72 yX11_set) ∈ wsL_law := kr_28 _ (List.mem_of_getElem? (i := 22) rfl)
theorem kw_28_23 : (Cond.instanceMethod yX11_set) ∈ wsL_law := kr_28 _ (List.mem_of_getElem? (i := 23) rfl)
theorem kw_29_0 : (Cond.selects RX11 yX11_set yX11_set) ∈ wsL_law := kr_29 _ (List.mem_of_getElem? (i := 0) rfl)
theorem kw_29_1 : (Cond.code yX11_set cX11_set 3 (some .int)) ∈ wsL_law := kr_29 _ (List.mem_of_getElem? (i := 1) rfl)
theorem kw_29_2 : (Cond.methodLink RX11 148 yX11_sets) ∈ wsL_law := kr_29 _ (List.mem_of_getElem? (i := 2) rfl)
theorem kw_29_3 : (Cond.instanceMethod yX11_sets) ∈ wsL_law := kr_29 _ (List.mem_of_getElem? (i := 3) rfl)
theorem kw_29_4 : (Cond.selects RX11 yX11_sets yX11_sets) ∈ wsL_law := kr_29 _ (List.mem_of_getElem? (i := 4) rfl)
theorem kw_29_5 : (Cond.code yX11_sets cX11_sets 4 (some .int)) ∈ wsL_law := kr_29 _ (List.mem_of_getElem? (i := 5) rfl)
theorem kw_29_6 : (Cond.methodLink RL 73 yX10_incidentOf) ∈ wsL_law := kr_29 _ (List.mem_of_getElem? (i := 6) rfl)
theorem kw_29_7 : (Cond.instanceMethod yX10_incidentOf) ∈ wsL_law := kr_29 _ (List.mem_of_getElem? (i := 7) rfl)
theorem kw_29_8 : (Cond.selects RX10 yX10_incidentOf yX10_incidentOf) ∈ wsL_law := kr_29 _ (List.mem_of_getElem? (i := 8) rfl)
theorem kw_29_9 : (Cond.code yX10_incidentOf cX10_incidentOf 4 (some .int)) ∈ wsL_law := kr_29 _ (List.mem_of_getElem? (i := 9) rfl)
theorem kw_29_10 : (Cond.fieldLink RX10 143 "PageRotas$House" "incidents" "[LPageRotas$Incident;") ∈ wsL_law := kr_29 _ (List.mem_of_getElem? (i := 10) rfl)
theorem kw_29_11 : (Cond.fieldLink RX10 147 "PageRotas$Incident" "cause" "I") ∈ wsL_law := kr_29 _ (List.mem_of_getElem? (i := 11) rfl)
theorem kw_29_12 : (Cond.fieldLink RX10 152 "PageRotas$Incident" "severity" "I") ∈ wsL_law := kr_29 _ (List.mem_of_getElem? (i := 12) rfl)
theorem kw_29_13 : (Cond.fieldLink RX10 155 "PageRotas$Incident" "level" "I") ∈ wsL_law := kr_29 _ (List.mem_of_getElem? (i := 13) rfl)
theorem kw_29_14 : (Cond.fieldLink RX10 158 "PageRotas$Incident" "owner" "I") ∈ wsL_law := kr_29 _ (List.mem_of_getElem? (i := 14) rfl)
theorem kw_29_15 : (Cond.fieldLink RX10 161 "PageRotas$Incident" "acknowledged" "Z") ∈ wsL_law := kr_29 _ (List.mem_of_getElem? (i := 15) rfl)
theorem kw_29_16 : (Cond.fieldLink RX10 165 "PageRotas$Incident" "alerts" "I") ∈ wsL_law := kr_29 _ (List.mem_of_getElem? (i := 16) rfl)
theorem kw_29_17 : (Cond.fieldLink RX10 168 "PageRotas$Incident" "firstAlert" "I") ∈ wsL_law := kr_29 _ (List.mem_of_getElem? (i := 17) rfl)
theorem kw_29_18 : (Cond.fieldLink RX10 171 "PageRotas$Incident" "latestAlert" "I") ∈ wsL_law := kr_29 _ (List.mem_of_getElem? (i := 18) rfl)
theorem kw_29_19 : (Cond.fieldLink RX10 174 "PageRotas$Incident" "unowned" "I") ∈ wsL_law := kr_29 _ (List.mem_of_getElem? (i := 19) rfl)
theorem kw_29_20 : (Cond.fieldLink RX10 177 "PageRotas$Incident" "pagedAt" "I") ∈ wsL_law := kr_29 _ (List.mem_of_getElem? (i := 20) rfl)
theorem kw_29_21 : (Cond.fieldLink RX10 180 "PageRotas$Incident" "handOffs" "I") ∈ wsL_law := kr_29 _ (List.mem_of_getElem? (i := 21) rfl)
theorem kw_29_22 : (Cond.fieldLink RX10 183 "PageRotas$Incident" "escalations" "I") ∈ wsL_law := kr_29 _ (List.mem_of_getElem? (i := 22) rfl)
theorem kw_29_23 : (Cond.methodLink RX10 140 yX1_isOpen) ∈ wsL_law := kr_29 _ (List.mem_of_getElem? (i := 23) rfl)
theorem kw_30_0 : (Cond.methodLink RL 76 yX11_incidentOf) ∈ wsL_law := kr_30 _ (List.mem_of_getElem? (i := 0) rfl)
theorem kw_30_1 : (Cond.instanceMethod yX11_incidentOf) ∈ wsL_law := kr_30 _ (List.mem_of_getElem? (i := 1) rfl)
theorem kw_30_2 : (Cond.selects RX11 yX11_incidentOf yX11_incidentOf) ∈ wsL_law := kr_30 _ (List.mem_of_getElem? (i := 2) rfl)
theorem kw_30_3 : (Cond.code yX11_incidentOf cX11_incidentOf 4 (some .int)) ∈ wsL_law := kr_30 _ (List.mem_of_getElem? (i := 3) rfl)
theorem kw_30_4 : (Cond.methodLink RL 77 yX10_count) ∈ wsL_law := kr_30 _ (List.mem_of_getElem? (i := 4) rfl)
theorem kw_30_5 : (Cond.instanceMethod yX10_count) ∈ wsL_law := kr_30 _ (List.mem_of_getElem? (i := 5) rfl)
theorem kw_30_6 : (Cond.selects RX10 yX10_count yX10_count) ∈ wsL_law := kr_30 _ (List.mem_of_getElem? (i := 6) rfl)
theorem kw_30_7 : (Cond.code yX10_count cX10_count 2 (some .int)) ∈ wsL_law := kr_30 _ (List.mem_of_getElem? (i := 7) rfl)
theorem kw_30_8 : (Cond.fieldLink RX10 186 "PageRotas$Rotas" "peopleCount" "I") ∈ wsL_law := kr_30 _ (List.mem_of_getElem? (i := 8) rfl)
theorem kw_30_9 : (Cond.fieldLink RX10 189 "PageRotas$Rotas" "regionCount" "I") ∈ wsL_law := kr_30 _ (List.mem_of_getElem? (i := 9) rfl)
theorem kw_30_10 : (Cond.fieldLink RX10 201 "PageRotas$History" "size" "I") ∈ wsL_law := kr_30 _ (List.mem_of_getElem? (i := 10) rfl)
theorem kw_30_11 : (Cond.fieldLink RX10 204 "PageRotas$Script" "length" "I") ∈ wsL_law := kr_30 _ (List.mem_of_getElem? (i := 11) rfl)
theorem kw_30_12 : (Cond.fieldLink RX10 207 "PageRotas$House" "escalateAfter" "I") ∈ wsL_law := kr_30 _ (List.mem_of_getElem? (i := 12) rfl)
theorem kw_30_13 : (Cond.fieldLink RX10 210 "PageRotas$House" "foldWithin" "I") ∈ wsL_law := kr_30 _ (List.mem_of_getElem? (i := 13) rfl)
theorem kw_30_14 : (Cond.fieldLink RX10 213 "PageRotas$House" "totals" "LPageRotas$Totals;") ∈ wsL_law := kr_30 _ (List.mem_of_getElem? (i := 14) rfl)
theorem kw_30_15 : (Cond.methodLink RX10 192 yX1_openIncidents) ∈ wsL_law := kr_30 _ (List.mem_of_getElem? (i := 15) rfl)
theorem kw_30_16 : (Cond.instanceMethod yX1_openIncidents) ∈ wsL_law := kr_30 _ (List.mem_of_getElem? (i := 16) rfl)
theorem kw_30_17 : (Cond.selects RX1 yX1_openIncidents yX1_openIncidents) ∈ wsL_law := kr_30 _ (List.mem_of_getElem? (i := 17) rfl)
theorem kw_30_18 : (Cond.code yX1_openIncidents cX1_openIncidents 3 (some .int)) ∈ wsL_law := kr_30 _ (List.mem_of_getElem? (i := 18) rfl)
theorem kw_30_19 : (Cond.methodLink RX10 195 yX1_acknowledgedIncidents) ∈ wsL_law := kr_30 _ (List.mem_of_getElem? (i := 19) rfl)
theorem kw_30_20 : (Cond.instanceMethod yX1_acknowledgedIncidents) ∈ wsL_law := kr_30 _ (List.mem_of_getElem? (i := 20) rfl)
theorem kw_30_21 : (Cond.selects RX1 yX1_acknowledgedIncidents yX1_acknowledgedIncidents) ∈ wsL_law := kr_30 _ (List.mem_of_getElem? (i := 21) rfl)
theorem kw_30_22 : (Cond.code yX1_acknowledgedIncidents cX1_acknowledgedIncidents 3 (some .int)) ∈ wsL_law := kr_30 _ (List.mem_of_getElem? (i := 22) rfl)
theorem kw_30_23 : (Cond.methodLink RX10 198 yX5_standInsAt) ∈ wsL_law := kr_30 _ (List.mem_of_getElem? (i := 23) rfl)
theorem kw_31_0 : (Cond.instanceMethod yX5_standInsAt) ∈ wsL_law := kr_31 _ (List.mem_of_getElem? (i := 0) rfl)
theorem kw_31_1 : (Cond.selects RX5 yX5_standInsAt yX5_standInsAt) ∈ wsL_law := kr_31 _ (List.mem_of_getElem? (i := 1) rfl)
theorem kw_31_2 : (Cond.code yX5_standInsAt cX5_standInsAt 4 (some .int)) ∈ wsL_law := kr_31 _ (List.mem_of_getElem? (i := 2) rfl)
theorem kw_31_3 : (Cond.methodLink RX10 217 yX9_numbered) ∈ wsL_law := kr_31 _ (List.mem_of_getElem? (i := 3) rfl)
theorem kw_31_4 : (Cond.instanceMethod yX9_numbered) ∈ wsL_law := kr_31 _ (List.mem_of_getElem? (i := 4) rfl)
theorem kw_31_5 : (Cond.selects RX9 yX9_numbered yX9_numbered) ∈ wsL_law := kr_31 _ (List.mem_of_getElem? (i := 5) rfl)
theorem kw_31_6 : (Cond.code yX9_numbered cX9_numbered 2 (some .int)) ∈ wsL_law := kr_31 _ (List.mem_of_getElem? (i := 6) rfl)
theorem kw_31_7 : (Cond.methodLink RL 80 yX11_count) ∈ wsL_law := kr_31 _ (List.mem_of_getElem? (i := 7) rfl)
theorem kw_31_8 : (Cond.instanceMethod yX11_count) ∈ wsL_law := kr_31 _ (List.mem_of_getElem? (i := 8) rfl)
theorem kw_31_9 : (Cond.selects RX11 yX11_count yX11_count) ∈ wsL_law := kr_31 _ (List.mem_of_getElem? (i := 9) rfl)
theorem kw_31_10 : (Cond.code yX11_count cX11_count 2 (some .int)) ∈ wsL_law := kr_31 _ (List.mem_of_getElem? (i := 10) rfl)
theorem kw_31_11 : (Cond.fieldLink RX11 161 "PageRotasModel" "length" "I") ∈ wsL_law := kr_31 _ (List.mem_of_getElem? (i := 11) rfl)
theorem kw_31_12 : (Cond.methodLink RX11 158 yX11_openOnes) ∈ wsL_law := kr_31 _ (List.mem_of_getElem? (i := 12) rfl)
theorem kw_31_13 : (Cond.instanceMethod yX11_openOnes) ∈ wsL_law := kr_31 _ (List.mem_of_getElem? (i := 13) rfl)
theorem kw_31_14 : (Cond.selects RX11 yX11_openOnes yX11_openOnes) ∈ wsL_law := kr_31 _ (List.mem_of_getElem? (i := 14) rfl)
theorem kw_31_15 : (Cond.code yX11_openOnes cX11_openOnes 5 (some .int)) ∈ wsL_law := kr_31 _ (List.mem_of_getElem? (i := 15) rfl)
theorem kw_31_16 : (Cond.methodLink RL 81 yX10_onCall) ∈ wsL_law := kr_31 _ (List.mem_of_getElem? (i := 16) rfl)
theorem kw_31_17 : (Cond.instanceMethod yX10_onCall) ∈ wsL_law := kr_31 _ (List.mem_of_getElem? (i := 17) rfl)
theorem kw_31_18 : (Cond.selects RX10 yX10_onCall yX10_onCall) ∈ wsL_law := kr_31 _ (List.mem_of_getElem? (i := 18) rfl)
theorem kw_31_19 : (Cond.code yX10_onCall cX10_onCall 6 (some .int)) ∈ wsL_law := kr_31 _ (List.mem_of_getElem? (i := 19) rfl)
theorem kw_31_20 : (Cond.methodLink RX10 222 yX5_regionAt) ∈ wsL_law := kr_31 _ (List.mem_of_getElem? (i := 20) rfl)
theorem kw_31_21 : (Cond.methodLink RX10 225 yX5_personAt) ∈ wsL_law := kr_31 _ (List.mem_of_getElem? (i := 21) rfl)
theorem kw_31_22 : (Cond.methodLink RL 84 yX11_onCall) ∈ wsL_law := kr_31 _ (List.mem_of_getElem? (i := 22) rfl)
theorem kw_31_23 : (Cond.instanceMethod yX11_onCall) ∈ wsL_law := kr_31 _ (List.mem_of_getElem? (i := 23) rfl)
theorem kw_32_0 : (Cond.selects RX11 yX11_onCall yX11_onCall) ∈ wsL_law := kr_32 _ (List.mem_of_getElem? (i := 0) rfl)
theorem kw_32_1 : (Cond.code yX11_onCall cX11_onCall 5 (some .int)) ∈ wsL_law := kr_32 _ (List.mem_of_getElem? (i := 1) rfl)
theorem kw_32_2 : (Cond.methodLink RL 85 yX10_uncovered) ∈ wsL_law := kr_32 _ (List.mem_of_getElem? (i := 2) rfl)
theorem kw_32_3 : (Cond.instanceMethod yX10_uncovered) ∈ wsL_law := kr_32 _ (List.mem_of_getElem? (i := 3) rfl)
theorem kw_32_4 : (Cond.selects RX10 yX10_uncovered yX10_uncovered) ∈ wsL_law := kr_32 _ (List.mem_of_getElem? (i := 4) rfl)
theorem kw_32_5 : (Cond.code yX10_uncovered cX10_uncovered 3 (some .int)) ∈ wsL_law := kr_32 _ (List.mem_of_getElem? (i := 5) rfl)
theorem kw_32_6 : (Cond.methodLink RL 88 yX11_uncovered) ∈ wsL_law := kr_32 _ (List.mem_of_getElem? (i := 6) rfl)
theorem kw_32_7 : (Cond.instanceMethod yX11_uncovered) ∈ wsL_law := kr_32 _ (List.mem_of_getElem? (i := 7) rfl)
theorem kw_32_8 : (Cond.selects RX11 yX11_uncovered yX11_uncovered) ∈ wsL_law := kr_32 _ (List.mem_of_getElem? (i := 8) rfl)
theorem kw_32_9 : (Cond.code yX11_uncovered cX11_uncovered 3 (some .int)) ∈ wsL_law := kr_32 _ (List.mem_of_getElem? (i := 9) rfl)
theorem kw_32_10 : (Cond.methodLink RL 89 yX10_later) ∈ wsL_law := kr_32 _ (List.mem_of_getElem? (i := 10) rfl)
theorem kw_32_11 : (Cond.instanceMethod yX10_later) ∈ wsL_law := kr_32 _ (List.mem_of_getElem? (i := 11) rfl)
theorem kw_32_12 : (Cond.selects RX10 yX10_later yX10_later) ∈ wsL_law := kr_32 _ (List.mem_of_getElem? (i := 12) rfl)
theorem kw_32_13 : (Cond.code yX10_later cX10_later 5 (some .int)) ∈ wsL_law := kr_32 _ (List.mem_of_getElem? (i := 13) rfl)
theorem kw_32_14 : (Cond.methodLink RX10 228 yX1_copyFrom) ∈ wsL_law := kr_32 _ (List.mem_of_getElem? (i := 14) rfl)
theorem kw_32_15 : (Cond.methodLink RX10 231 yX1_follow) ∈ wsL_law := kr_32 _ (List.mem_of_getElem? (i := 15) rfl)
theorem kw_32_16 : (Cond.instanceMethod yX1_follow) ∈ wsL_law := kr_32 _ (List.mem_of_getElem? (i := 16) rfl)
theorem kw_32_17 : (Cond.selects RX1 yX1_follow yX1_follow) ∈ wsL_law := kr_32 _ (List.mem_of_getElem? (i := 17) rfl)
theorem kw_32_18 : (Cond.code yX1_follow cX1_follow 5 none) ∈ wsL_law := kr_32 _ (List.mem_of_getElem? (i := 18) rfl)
theorem kw_32_19 : (Cond.methodLink RL 92 yX11_later) ∈ wsL_law := kr_32 _ (List.mem_of_getElem? (i := 19) rfl)
theorem kw_32_20 : (Cond.instanceMethod yX11_later) ∈ wsL_law := kr_32 _ (List.mem_of_getElem? (i := 20) rfl)
theorem kw_32_21 : (Cond.selects RX11 yX11_later yX11_later) ∈ wsL_law := kr_32 _ (List.mem_of_getElem? (i := 21) rfl)
theorem kw_32_22 : (Cond.code yX11_later cX11_later 7 (some .int)) ∈ wsL_law := kr_32 _ (List.mem_of_getElem? (i := 22) rfl)
theorem kw_32_23 : (Cond.methodLink RL 93 yX10_acknowledgeBits) ∈ wsL_law := kr_32 _ (List.mem_of_getElem? (i := 23) rfl)
theorem kw_33_0 : (Cond.instanceMethod yX10_acknowledgeBits) ∈ wsL_law := kr_33 _ (List.mem_of_getElem? (i := 0) rfl)
theorem kw_33_1 : (Cond.selects RX10 yX10_acknowledgeBits yX10_acknowledgeBits) ∈ wsL_law := kr_33 _ (List.mem_of_getElem? (i := 1) rfl)
theorem kw_33_2 : (Cond.code yX10_acknowledgeBits cX10_acknowledgeBits 2 (some .int)) ∈ wsL_law := kr_33 _ (List.mem_of_getElem? (i := 2) rfl)
theorem kw_33_3 : (Cond.fieldLink RX10 235 "PageRotas$Totals" "acknowledgements" "I") ∈ wsL_law := kr_33 _ (List.mem_of_getElem? (i := 3) rfl)
theorem kw_33_4 : (Cond.fieldLink RX10 238 "PageRotas$Totals" "minutesToAcknowledge" "I") ∈ wsL_law := kr_33 _ (List.mem_of_getElem? (i := 4) rfl)
theorem kw_33_5 : (Cond.methodLink RX10 241 yX10_bitsOf) ∈ wsL_law := kr_33 _ (List.mem_of_getElem? (i := 5) rfl)
theorem kw_33_6 : (Cond.static yX10_bitsOf) ∈ wsL_law := kr_33 _ (List.mem_of_getElem? (i := 6) rfl)
theorem kw_33_7 : (Cond.code yX10_bitsOf cX10_bitsOf 3 (some .int)) ∈ wsL_law := kr_33 _ (List.mem_of_getElem? (i := 7) rfl)
theorem kw_33_8 : (Cond.constantFloat RX10 271 (1056964608)) ∈ wsL_law := kr_33 _ (List.mem_of_getElem? (i := 8) rfl)
theorem kw_33_9 : (Cond.constantFloat RX10 272 (1258291200)) ∈ wsL_law := kr_33 _ (List.mem_of_getElem? (i := 9) rfl)
theorem kw_33_10 : (Cond.methodLink RL 96 yX11_acknowledgeBits) ∈ wsL_law := kr_33 _ (List.mem_of_getElem? (i := 10) rfl)
theorem kw_33_11 : (Cond.instanceMethod yX11_acknowledgeBits) ∈ wsL_law := kr_33 _ (List.mem_of_getElem? (i := 11) rfl)
theorem kw_33_12 : (Cond.selects RX11 yX11_acknowledgeBits yX11_acknowledgeBits) ∈ wsL_law := kr_33 _ (List.mem_of_getElem? (i := 12) rfl)
theorem kw_33_13 : (Cond.code yX11_acknowledgeBits cX11_acknowledgeBits 3 (some .int)) ∈ wsL_law := kr_33 _ (List.mem_of_getElem? (i := 13) rfl)
theorem kw_33_14 : (Cond.methodLink RX11 164 yJxf58ca_floatToIntBits_5c35a) ∈ wsL_law := kr_33 _ (List.mem_of_getElem? (i := 14) rfl)
theorem kw_33_15 : (Cond.static yJxf58ca_floatToIntBits_5c35a) ∈ wsL_law := kr_33 _ (List.mem_of_getElem? (i := 15) rfl)
theorem kw_33_16 : (Cond.initialized RJxf58ca) ∈ wsL_law := kr_33 _ (List.mem_of_getElem? (i := 16) rfl)
theorem kw_33_17 : (Cond.code yJxf58ca_floatToIntBits_5c35a cJxf58ca_floatToIntBits_5c35a 1 (some .int)) ∈ wsL_law := kr_33 _ (List.mem_of_getElem? (i := 17) rfl)
theorem kw_33_18 : (Cond.methodLink RJxf58ca 74 ⟨"java/lang/Float", "floatToRawIntBits", "(F)I"⟩) ∈ wsL_law := kr_33 _ (List.mem_of_getElem? (i := 18) rfl)
theorem kw_33_19 : (Cond.native ⟨"java/lang/Float", "floatToRawIntBits", "(F)I"⟩) ∈ wsL_law := kr_33 _ (List.mem_of_getElem? (i := 19) rfl)
theorem kw_33_20 : (Cond.static ⟨"java/lang/Float", "floatToRawIntBits", "(F)I"⟩) ∈ wsL_law := kr_33 _ (List.mem_of_getElem? (i := 20) rfl)
theorem kw_33_21 : (Cond.initialized "java/lang/Float") ∈ wsL_law := kr_33 _ (List.mem_of_getElem? (i := 21) rfl)
theorem kw_33_22 : (Cond.constant RJxf58ca 77 (2143289344)) ∈ wsL_law := kr_33 _ (List.mem_of_getElem? (i := 22) rfl)
theorem kw_33_23 : (Cond.methodLink RJxf58ca 59 yJxf58ca_isNaN_12338) ∈ wsL_law := kr_33 _ (List.mem_of_getElem? (i := 23) rfl)
theorem kw_34_0 : (Cond.static yJxf58ca_isNaN_12338) ∈ wsL_law := kr_34 _ (List.mem_of_getElem? (i := 0) rfl)
theorem kw_34_1 : (Cond.code yJxf58ca_isNaN_12338 cJxf58ca_isNaN_12338 1 (some .boolean)) ∈ wsL_law := kr_34 _ (List.mem_of_getElem? (i := 1) rfl)
theorem kw_34_2 : (Cond.methodLink RL 97 yX10_unownedBits) ∈ wsL_law := kr_34 _ (List.mem_of_getElem? (i := 2) rfl)
theorem kw_34_3 : (Cond.instanceMethod yX10_unownedBits) ∈ wsL_law := kr_34 _ (List.mem_of_getElem? (i := 3) rfl)
theorem kw_34_4 : (Cond.selects RX10 yX10_unownedBits yX10_unownedBits) ∈ wsL_law := kr_34 _ (List.mem_of_getElem? (i := 4) rfl)
theorem kw_34_5 : (Cond.code yX10_unownedBits cX10_unownedBits 2 (some .int)) ∈ wsL_law := kr_34 _ (List.mem_of_getElem? (i := 5) rfl)
theorem kw_34_6 : (Cond.fieldLink RX10 245 "PageRotas$Totals" "open" "I") ∈ wsL_law := kr_34 _ (List.mem_of_getElem? (i := 6) rfl)
theorem kw_34_7 : (Cond.fieldLink RX10 248 "PageRotas$Totals" "unowned" "I") ∈ wsL_law := kr_34 _ (List.mem_of_getElem? (i := 7) rfl)
theorem kw_34_8 : (Cond.methodLink RL 100 yX11_unownedBits) ∈ wsL_law := kr_34 _ (List.mem_of_getElem? (i := 8) rfl)
theorem kw_34_9 : (Cond.instanceMethod yX11_unownedBits) ∈ wsL_law := kr_34 _ (List.mem_of_getElem? (i := 9) rfl)
theorem kw_34_10 : (Cond.selects RX11 yX11_unownedBits yX11_unownedBits) ∈ wsL_law := kr_34 _ (List.mem_of_getElem? (i := 10) rfl)
theorem kw_34_11 : (Cond.code yX11_unownedBits cX11_unownedBits 6 (some .int)) ∈ wsL_law := kr_34 _ (List.mem_of_getElem? (i := 11) rfl)
theorem kw_34_12 : (Cond.methodLink RL 101 yX10_undo) ∈ wsL_law := kr_34 _ (List.mem_of_getElem? (i := 12) rfl)
theorem kw_34_13 : (Cond.instanceMethod yX10_undo) ∈ wsL_law := kr_34 _ (List.mem_of_getElem? (i := 13) rfl)
theorem kw_34_14 : (Cond.selects RX10 yX10_undo yX10_undo) ∈ wsL_law := kr_34 _ (List.mem_of_getElem? (i := 14) rfl)
theorem kw_34_15 : (Cond.code yX10_undo cX10_undo 1 (some .int)) ∈ wsL_law := kr_34 _ (List.mem_of_getElem? (i := 15) rfl)
theorem kw_34_16 : (Cond.methodLink RX10 249 yX0_restore) ∈ wsL_law := kr_34 _ (List.mem_of_getElem? (i := 16) rfl)
theorem kw_34_17 : (Cond.instanceMethod yX0_restore) ∈ wsL_law := kr_34 _ (List.mem_of_getElem? (i := 17) rfl)
theorem kw_34_18 : (Cond.selects RX0 yX0_restore yX0_restore) ∈ wsL_law := kr_34 _ (List.mem_of_getElem? (i := 18) rfl)
theorem kw_34_19 : (Cond.code yX0_restore cX0_restore 2 none) ∈ wsL_law := kr_34 _ (List.mem_of_getElem? (i := 19) rfl)
theorem kw_34_20 : (Cond.methodLink RL 104 yX11_undo) ∈ wsL_law := kr_34 _ (List.mem_of_getElem? (i := 20) rfl)
theorem kw_34_21 : (Cond.instanceMethod yX11_undo) ∈ wsL_law := kr_34 _ (List.mem_of_getElem? (i := 21) rfl)
theorem kw_34_22 : (Cond.selects RX11 yX11_undo yX11_undo) ∈ wsL_law := kr_34 _ (List.mem_of_getElem? (i := 22) rfl)
theorem kw_34_23 : (Cond.code yX11_undo cX11_undo 2 (some .int)) ∈ wsL_law := kr_34 _ (List.mem_of_getElem? (i := 23) rfl)
theorem kw_35_0 : (Cond.methodLink RL 105 yX10_type) ∈ wsL_law := kr_35 _ (List.mem_of_getElem? (i := 0) rfl)
theorem kw_35_1 : (Cond.instanceMethod yX10_type) ∈ wsL_law := kr_35 _ (List.mem_of_getElem? (i := 1) rfl)
theorem kw_35_2 : (Cond.selects RX10 yX10_type yX10_type) ∈ wsL_law := kr_35 _ (List.mem_of_getElem? (i := 2) rfl)
theorem kw_35_3 : (Cond.code yX10_type cX10_type 2 (some .int)) ∈ wsL_law := kr_35 _ (List.mem_of_getElem? (i := 3) rfl)
theorem kw_35_4 : (Cond.methodLink RX10 252 yX6_append) ∈ wsL_law := kr_35 _ (List.mem_of_getElem? (i := 4) rfl)
theorem kw_35_5 : (Cond.instanceMethod yX6_append) ∈ wsL_law := kr_35 _ (List.mem_of_getElem? (i := 5) rfl)
theorem kw_35_6 : (Cond.selects RX6 yX6_append yX6_append) ∈ wsL_law := kr_35 _ (List.mem_of_getElem? (i := 6) rfl)
theorem kw_35_7 : (Cond.code yX6_append cX6_append 2 (some .int)) ∈ wsL_law := kr_35 _ (List.mem_of_getElem? (i := 7) rfl)
theorem kw_35_8 : (Cond.fieldLink RX6 23 "PageRotas$Script" "length" "I") ∈ wsL_law := kr_35 _ (List.mem_of_getElem? (i := 8) rfl)
theorem kw_35_9 : (Cond.methodLink RL 108 yX11_type) ∈ wsL_law := kr_35 _ (List.mem_of_getElem? (i := 9) rfl)
theorem kw_35_10 : (Cond.instanceMethod yX11_type) ∈ wsL_law := kr_35 _ (List.mem_of_getElem? (i := 10) rfl)
theorem kw_35_11 : (Cond.selects RX11 yX11_type yX11_type) ∈ wsL_law := kr_35 _ (List.mem_of_getElem? (i := 11) rfl)
theorem kw_35_12 : (Cond.code yX11_type cX11_type 2 (some .int)) ∈ wsL_law := kr_35 _ (List.mem_of_getElem? (i := 12) rfl)
theorem kw_35_13 : (Cond.methodLink RL 109 yX10_clearText) ∈ wsL_law := kr_35 _ (List.mem_of_getElem? (i := 13) rfl)
theorem kw_35_14 : (Cond.instanceMethod yX10_clearText) ∈ wsL_law := kr_35 _ (List.mem_of_getElem? (i := 14) rfl)
theorem kw_35_15 : (Cond.selects RX10 yX10_clearText yX10_clearText) ∈ wsL_law := kr_35 _ (List.mem_of_getElem? (i := 15) rfl)
theorem kw_35_16 : (Cond.code yX10_clearText cX10_clearText 2 (some .int)) ∈ wsL_law := kr_35 _ (List.mem_of_getElem? (i := 16) rfl)
theorem kw_35_17 : (Cond.methodLink RL 112 yX11_clearText) ∈ wsL_law := kr_35 _ (List.mem_of_getElem? (i := 17) rfl)
theorem kw_35_18 : (Cond.instanceMethod yX11_clearText) ∈ wsL_law := kr_35 _ (List.mem_of_getElem? (i := 18) rfl)
theorem kw_35_19 : (Cond.selects RX11 yX11_clearText yX11_clearText) ∈ wsL_law := kr_35 _ (List.mem_of_getElem? (i := 19) rfl)
theorem kw_35_20 : (Cond.code yX11_clearText cX11_clearText 2 (some .int)) ∈ wsL_law := kr_35 _ (List.mem_of_getElem? (i := 20) rfl)
theorem kw_35_21 : (Cond.methodLink RL 113 yX10_fault) ∈ wsL_law := kr_35 _ (List.mem_of_getElem? (i := 21) rfl)
theorem kw_35_22 : (Cond.instanceMethod yX10_fault) ∈ wsL_law := kr_35 _ (List.mem_of_getElem? (i := 22) rfl)
theorem kw_35_23 : (Cond.selects RX10 yX10_fault yX10_fault) ∈ wsL_law := kr_35 _ (List.mem_of_getElem? (i := 23) rfl)
theorem kw_36_0 : (Cond.code yX10_fault cX10_fault 2 (some .int)) ∈ wsL_law := kr_36 _ (List.mem_of_getElem? (i := 0) rfl)
theorem kw_36_1 : (Cond.fieldLink RX10 259 "PageRotas$Script" "faultReason" "I") ∈ wsL_law := kr_36 _ (List.mem_of_getElem? (i := 1) rfl)
theorem kw_36_2 : (Cond.fieldLink RX10 262 "PageRotas$Script" "faultAt" "I") ∈ wsL_law := kr_36 _ (List.mem_of_getElem? (i := 2) rfl)
theorem kw_36_3 : (Cond.methodLink RX10 256 yX6_perform) ∈ wsL_law := kr_36 _ (List.mem_of_getElem? (i := 3) rfl)
theorem kw_36_4 : (Cond.instanceMethod yX6_perform) ∈ wsL_law := kr_36 _ (List.mem_of_getElem? (i := 4) rfl)
theorem kw_36_5 : (Cond.selects RX6 yX6_perform yX6_perform) ∈ wsL_law := kr_36 _ (List.mem_of_getElem? (i := 5) rfl)
theorem kw_36_6 : (Cond.code yX6_perform cX6_perform 5 none) ∈ wsL_law := kr_36 _ (List.mem_of_getElem? (i := 6) rfl)
theorem kw_36_7 : (Cond.fieldLink RX6 26 "PageRotas$Script" "commands" "I") ∈ wsL_law := kr_36 _ (List.mem_of_getElem? (i := 7) rfl)
theorem kw_36_8 : (Cond.fieldLink RX6 40 "PageRotas$Script" "faultAt" "I") ∈ wsL_law := kr_36 _ (List.mem_of_getElem? (i := 8) rfl)
theorem kw_36_9 : (Cond.methodLink RX6 29 yX6_readCommand) ∈ wsL_law := kr_36 _ (List.mem_of_getElem? (i := 9) rfl)
theorem kw_36_10 : (Cond.instanceMethod yX6_readCommand) ∈ wsL_law := kr_36 _ (List.mem_of_getElem? (i := 10) rfl)
theorem kw_36_11 : (Cond.selects RX6 yX6_readCommand yX6_readCommand) ∈ wsL_law := kr_36 _ (List.mem_of_getElem? (i := 11) rfl)
theorem kw_36_12 : (Cond.code yX6_readCommand cX6_readCommand 5 (some .int)) ∈ wsL_law := kr_36 _ (List.mem_of_getElem? (i := 12) rfl)
theorem kw_36_13 : (Cond.fieldLink RX6 43 "PageRotas$Script" "verb" "I") ∈ wsL_law := kr_36 _ (List.mem_of_getElem? (i := 13) rfl)
theorem kw_36_14 : (Cond.methodLink RX6 65 yX6_signAt) ∈ wsL_law := kr_36 _ (List.mem_of_getElem? (i := 14) rfl)
theorem kw_36_15 : (Cond.instanceMethod yX6_signAt) ∈ wsL_law := kr_36 _ (List.mem_of_getElem? (i := 15) rfl)
theorem kw_36_16 : (Cond.selects RX6 yX6_signAt yX6_signAt) ∈ wsL_law := kr_36 _ (List.mem_of_getElem? (i := 16) rfl)
theorem kw_36_17 : (Cond.code yX6_signAt cX6_signAt 2 (some .char)) ∈ wsL_law := kr_36 _ (List.mem_of_getElem? (i := 17) rfl)
theorem kw_36_18 : (Cond.methodLink RX6 69 yX6_numbersAfter) ∈ wsL_law := kr_36 _ (List.mem_of_getElem? (i := 18) rfl)
theorem kw_36_19 : (Cond.static yX6_numbersAfter) ∈ wsL_law := kr_36 _ (List.mem_of_getElem? (i := 19) rfl)
theorem kw_36_20 : (Cond.code yX6_numbersAfter cX6_numbersAfter 1 (some .int)) ∈ wsL_law := kr_36 _ (List.mem_of_getElem? (i := 20) rfl)
theorem kw_36_21 : (Cond.methodLink RX6 72 yX6_readNumber) ∈ wsL_law := kr_36 _ (List.mem_of_getElem? (i := 21) rfl)
theorem kw_36_22 : (Cond.instanceMethod yX6_readNumber) ∈ wsL_law := kr_36 _ (List.mem_of_getElem? (i := 22) rfl)
theorem kw_36_23 : (Cond.selects RX6 yX6_readNumber yX6_readNumber) ∈ wsL_law := kr_36 _ (List.mem_of_getElem? (i := 23) rfl)
theorem kw_37_0 : (Cond.code yX6_readNumber cX6_readNumber 6 (some .int)) ∈ wsL_law := kr_37 _ (List.mem_of_getElem? (i := 0) rfl)
theorem kw_37_1 : (Cond.methodLink RX6 76 yX6_isDigit) ∈ wsL_law := kr_37 _ (List.mem_of_getElem? (i := 1) rfl)
theorem kw_37_2 : (Cond.static yX6_isDigit) ∈ wsL_law := kr_37 _ (List.mem_of_getElem? (i := 2) rfl)
theorem kw_37_3 : (Cond.code yX6_isDigit cX6_isDigit 1 (some .boolean)) ∈ wsL_law := kr_37 _ (List.mem_of_getElem? (i := 3) rfl)
theorem kw_37_4 : (Cond.methodLink RX6 33 yX6_obey) ∈ wsL_law := kr_37 _ (List.mem_of_getElem? (i := 4) rfl)
theorem kw_37_5 : (Cond.instanceMethod yX6_obey) ∈ wsL_law := kr_37 _ (List.mem_of_getElem? (i := 5) rfl)
theorem kw_37_6 : (Cond.selects RX6 yX6_obey yX6_obey) ∈ wsL_law := kr_37 _ (List.mem_of_getElem? (i := 6) rfl)
theorem kw_37_7 : (Cond.code yX6_obey cX6_obey 2 (some .int)) ∈ wsL_law := kr_37 _ (List.mem_of_getElem? (i := 7) rfl)
theorem kw_37_8 : (Cond.methodLink RX6 46 yX1_takeAlert) ∈ wsL_law := kr_37 _ (List.mem_of_getElem? (i := 8) rfl)
theorem kw_37_9 : (Cond.methodLink RX6 52 yX1_takeAcknowledgement) ∈ wsL_law := kr_37 _ (List.mem_of_getElem? (i := 9) rfl)
theorem kw_37_10 : (Cond.methodLink RX6 55 yX1_close) ∈ wsL_law := kr_37 _ (List.mem_of_getElem? (i := 10) rfl)
theorem kw_37_11 : (Cond.methodLink RX6 58 yX1_putStandIn) ∈ wsL_law := kr_37 _ (List.mem_of_getElem? (i := 11) rfl)
theorem kw_37_12 : (Cond.methodLink RX6 62 yX1_letPass) ∈ wsL_law := kr_37 _ (List.mem_of_getElem? (i := 12) rfl)
theorem kw_37_13 : (Cond.methodLink RX6 37 yX6_reasonOf) ∈ wsL_law := kr_37 _ (List.mem_of_getElem? (i := 13) rfl)
theorem kw_37_14 : (Cond.static yX6_reasonOf) ∈ wsL_law := kr_37 _ (List.mem_of_getElem? (i := 14) rfl)
theorem kw_37_15 : (Cond.code yX6_reasonOf cX6_reasonOf 1 (some .int)) ∈ wsL_law := kr_37 _ (List.mem_of_getElem? (i := 15) rfl)
theorem kw_37_16 : (Cond.methodLink RL 116 yX11_fault) ∈ wsL_law := kr_37 _ (List.mem_of_getElem? (i := 16) rfl)
theorem kw_37_17 : (Cond.instanceMethod yX11_fault) ∈ wsL_law := kr_37 _ (List.mem_of_getElem? (i := 17) rfl)
theorem kw_37_18 : (Cond.selects RX11 yX11_fault yX11_fault) ∈ wsL_law := kr_37 _ (List.mem_of_getElem? (i := 18) rfl)
theorem kw_37_19 : (Cond.code yX11_fault cX11_fault 3 (some .int)) ∈ wsL_law := kr_37 _ (List.mem_of_getElem? (i := 19) rfl)
theorem kw_37_20 : (Cond.fieldLink RX11 189 "PageRotasModel" "reason" "I") ∈ wsL_law := kr_37 _ (List.mem_of_getElem? (i := 20) rfl)
theorem kw_37_21 : (Cond.methodLink RX11 192 yX11_does) ∈ wsL_law := kr_37 _ (List.mem_of_getElem? (i := 21) rfl)
theorem kw_37_22 : (Cond.instanceMethod yX11_does) ∈ wsL_law := kr_37 _ (List.mem_of_getElem? (i := 22) rfl)
theorem kw_37_23 : (Cond.selects RX11 yX11_does yX11_does) ∈ wsL_law := kr_37 _ (List.mem_of_getElem? (i := 23) rfl)
theorem kw_38_0 : (Cond.code yX11_does cX11_does 4 (some .int)) ∈ wsL_law := kr_38 _ (List.mem_of_getElem? (i := 0) rfl)
theorem kw_38_1 : (Cond.fieldLink RX11 170 "PageRotasModel" "at" "I") ∈ wsL_law := kr_38 _ (List.mem_of_getElem? (i := 1) rfl)
theorem kw_38_2 : (Cond.fieldLink RX11 173 "PageRotasModel" "isForm" "Z") ∈ wsL_law := kr_38 _ (List.mem_of_getElem? (i := 2) rfl)
theorem kw_38_3 : (Cond.methodLink RX11 186 yX11_command) ∈ wsL_law := kr_38 _ (List.mem_of_getElem? (i := 3) rfl)
theorem kw_38_4 : (Cond.instanceMethod yX11_command) ∈ wsL_law := kr_38 _ (List.mem_of_getElem? (i := 4) rfl)
theorem kw_38_5 : (Cond.selects RX11 yX11_command yX11_command) ∈ wsL_law := kr_38 _ (List.mem_of_getElem? (i := 5) rfl)
theorem kw_38_6 : (Cond.code yX11_command cX11_command 4 (some .int)) ∈ wsL_law := kr_38 _ (List.mem_of_getElem? (i := 6) rfl)
theorem kw_38_7 : (Cond.methodLink RX11 177 yX11_here) ∈ wsL_law := kr_38 _ (List.mem_of_getElem? (i := 7) rfl)
theorem kw_38_8 : (Cond.instanceMethod yX11_here) ∈ wsL_law := kr_38 _ (List.mem_of_getElem? (i := 8) rfl)
theorem kw_38_9 : (Cond.selects RX11 yX11_here yX11_here) ∈ wsL_law := kr_38 _ (List.mem_of_getElem? (i := 9) rfl)
theorem kw_38_10 : (Cond.code yX11_here cX11_here 1 (some .int)) ∈ wsL_law := kr_38 _ (List.mem_of_getElem? (i := 10) rfl)
theorem kw_38_11 : (Cond.methodLink RX11 183 yX11_readNumber) ∈ wsL_law := kr_38 _ (List.mem_of_getElem? (i := 11) rfl)
theorem kw_38_12 : (Cond.instanceMethod yX11_readNumber) ∈ wsL_law := kr_38 _ (List.mem_of_getElem? (i := 12) rfl)
theorem kw_38_13 : (Cond.selects RX11 yX11_readNumber yX11_readNumber) ∈ wsL_law := kr_38 _ (List.mem_of_getElem? (i := 13) rfl)
theorem kw_38_14 : (Cond.code yX11_readNumber cX11_readNumber 4 (some .int)) ∈ wsL_law := kr_38 _ (List.mem_of_getElem? (i := 14) rfl)
theorem kw_38_15 : (Cond.methodLink RX11 180 yX11_must) ∈ wsL_law := kr_38 _ (List.mem_of_getElem? (i := 15) rfl)
theorem kw_38_16 : (Cond.instanceMethod yX11_must) ∈ wsL_law := kr_38 _ (List.mem_of_getElem? (i := 16) rfl)
theorem kw_38_17 : (Cond.selects RX11 yX11_must yX11_must) ∈ wsL_law := kr_38 _ (List.mem_of_getElem? (i := 17) rfl)
theorem kw_38_18 : (Cond.code yX11_must cX11_must 2 none) ∈ wsL_law := kr_38 _ (List.mem_of_getElem? (i := 18) rfl)
theorem kw_38_19 : (Cond.methodLink RX11 195 yX11_returns) ∈ wsL_law := kr_38 _ (List.mem_of_getElem? (i := 19) rfl)
theorem kw_38_20 : (Cond.instanceMethod yX11_returns) ∈ wsL_law := kr_38 _ (List.mem_of_getElem? (i := 20) rfl)
theorem kw_38_21 : (Cond.selects RX11 yX11_returns yX11_returns) ∈ wsL_law := kr_38 _ (List.mem_of_getElem? (i := 21) rfl)
theorem kw_38_22 : (Cond.code yX11_returns cX11_returns 2 none) ∈ wsL_law := kr_38 _ (List.mem_of_getElem? (i := 22) rfl)
theorem kw_38_23 : (Cond.methodLink RL 117 yX10_play) ∈ wsL_law := kr_38 _ (List.mem_of_getElem? (i := 23) rfl)
theorem kw_39_0 : (Cond.instanceMethod yX10_play) ∈ wsL_law := kr_39 _ (List.mem_of_getElem? (i := 0) rfl)
theorem kw_39_1 : (Cond.selects RX10 yX10_play yX10_play) ∈ wsL_law := kr_39 _ (List.mem_of_getElem? (i := 1) rfl)
theorem kw_39_2 : (Cond.code yX10_play cX10_play 1 (some .int)) ∈ wsL_law := kr_39 _ (List.mem_of_getElem? (i := 2) rfl)
theorem kw_39_3 : (Cond.fieldLink RX10 265 "PageRotas$Script" "commands" "I") ∈ wsL_law := kr_39 _ (List.mem_of_getElem? (i := 3) rfl)
theorem kw_39_4 : (Cond.methodLink RL 120 yX11_play) ∈ wsL_law := kr_39 _ (List.mem_of_getElem? (i := 4) rfl)
theorem kw_39_5 : (Cond.instanceMethod yX11_play) ∈ wsL_law := kr_39 _ (List.mem_of_getElem? (i := 5) rfl)
theorem kw_39_6 : (Cond.selects RX11 yX11_play yX11_play) ∈ wsL_law := kr_39 _ (List.mem_of_getElem? (i := 6) rfl)
theorem kw_39_7 : (Cond.code yX11_play cX11_play 2 (some .int)) ∈ wsL_law := kr_39 _ (List.mem_of_getElem? (i := 7) rfl)
