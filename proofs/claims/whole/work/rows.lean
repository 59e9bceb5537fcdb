section
-- ===== PART A: goes FIRST, ahead of the names: the tables' words, and 'selects' of the private methods out of them =====
/-- a private method of a class that the tables say can be made, by its rows of tables_1 -/
def lw_okq (q : MethodName × Nat) : Prop := (q.1.cls ≠ "java/lang/invoke/MethodHandle" ∧ q.1.cls ≠ "java/lang/invoke/VarHandle") ∧ Cond.instantiable q.1.cls q.2 ∈ tables_1 ∧ Cond.privateMethod q.1 ∈ tables_1 ∧ Cond.instanceMethod q.1 ∈ tables_1
theorem lw_p0 : lw_okq (⟨"PageRotas", "settled", "(I)I"⟩, 4) := ⟨⟨by decide +kernel, by decide +kernel⟩, List.mem_of_getElem? (i := 18) (by decide +kernel), List.mem_of_getElem? (i := 415) (by decide +kernel), List.mem_of_getElem? (i := 416) (by decide +kernel)⟩
theorem lw_p1 : lw_okq (⟨"PageRotas$History", "dropOldest", "()V"⟩, 2) := ⟨⟨by decide +kernel, by decide +kernel⟩, List.mem_of_getElem? (i := 304) (by decide +kernel), List.mem_of_getElem? (i := 423) (by decide +kernel), List.mem_of_getElem? (i := 424) (by decide +kernel)⟩
theorem lw_p2 : lw_okq (⟨"PageRotas$House", "fold", "(LPageRotas$Incident;I)Z"⟩, 6) := ⟨⟨by decide +kernel, by decide +kernel⟩, List.mem_of_getElem? (i := 26) (by decide +kernel), List.mem_of_getElem? (i := 565) (by decide +kernel), List.mem_of_getElem? (i := 566) (by decide +kernel)⟩
theorem lw_p3 : lw_okq (⟨"PageRotas$House", "page", "(LPageRotas$Incident;I)V"⟩, 6) := ⟨⟨by decide +kernel, by decide +kernel⟩, List.mem_of_getElem? (i := 26) (by decide +kernel), List.mem_of_getElem? (i := 579) (by decide +kernel), List.mem_of_getElem? (i := 580) (by decide +kernel)⟩
theorem lw_p4 : lw_okq (⟨"PageRotas$House", "age", "(LPageRotas$Incident;I)Z"⟩, 6) := ⟨⟨by decide +kernel, by decide +kernel⟩, List.mem_of_getElem? (i := 26) (by decide +kernel), List.mem_of_getElem? (i := 629) (by decide +kernel), List.mem_of_getElem? (i := 630) (by decide +kernel)⟩
theorem lw_p5 : lw_okq (⟨"PageRotas$Script", "readCommand", "(I)I"⟩, 7) := ⟨⟨by decide +kernel, by decide +kernel⟩, List.mem_of_getElem? (i := 321) (by decide +kernel), List.mem_of_getElem? (i := 726) (by decide +kernel), List.mem_of_getElem? (i := 727) (by decide +kernel)⟩
theorem lw_p6 : lw_okq (⟨"PageRotas$Script", "signAt", "(I)C"⟩, 7) := ⟨⟨by decide +kernel, by decide +kernel⟩, List.mem_of_getElem? (i := 321) (by decide +kernel), List.mem_of_getElem? (i := 730) (by decide +kernel), List.mem_of_getElem? (i := 731) (by decide +kernel)⟩
theorem lw_p7 : lw_okq (⟨"PageRotas$Script", "readNumber", "(IIC)I"⟩, 7) := ⟨⟨by decide +kernel, by decide +kernel⟩, List.mem_of_getElem? (i := 321) (by decide +kernel), List.mem_of_getElem? (i := 737) (by decide +kernel), List.mem_of_getElem? (i := 738) (by decide +kernel)⟩
theorem lw_p8 : lw_okq (⟨"PageRotas$Script", "obey", "(LPageRotas$House;)I"⟩, 7) := ⟨⟨by decide +kernel, by decide +kernel⟩, List.mem_of_getElem? (i := 321) (by decide +kernel), List.mem_of_getElem? (i := 744) (by decide +kernel), List.mem_of_getElem? (i := 745) (by decide +kernel)⟩
theorem lw_p9 : lw_okq (⟨"PageRotasModel", "begins", "()V"⟩, 11) := ⟨⟨by decide +kernel, by decide +kernel⟩, List.mem_of_getElem? (i := 760) (by decide +kernel), List.mem_of_getElem? (i := 804) (by decide +kernel), List.mem_of_getElem? (i := 805) (by decide +kernel)⟩
theorem lw_p10 : lw_okq (⟨"PageRotasModel", "comes", "()I"⟩, 11) := ⟨⟨by decide +kernel, by decide +kernel⟩, List.mem_of_getElem? (i := 760) (by decide +kernel), List.mem_of_getElem? (i := 808) (by decide +kernel), List.mem_of_getElem? (i := 809) (by decide +kernel)⟩
theorem lw_p11 : lw_okq (⟨"PageRotasModel", "acted", "(I)I"⟩, 11) := ⟨⟨by decide +kernel, by decide +kernel⟩, List.mem_of_getElem? (i := 760) (by decide +kernel), List.mem_of_getElem? (i := 812) (by decide +kernel), List.mem_of_getElem? (i := 813) (by decide +kernel)⟩
theorem lw_p12 : lw_okq (⟨"PageRotasModel", "lies", "(III)I"⟩, 11) := ⟨⟨by decide +kernel, by decide +kernel⟩, List.mem_of_getElem? (i := 760) (by decide +kernel), List.mem_of_getElem? (i := 820) (by decide +kernel), List.mem_of_getElem? (i := 821) (by decide +kernel)⟩
theorem lw_p13 : lw_okq (⟨"PageRotasModel", "joins", "(II)I"⟩, 11) := ⟨⟨by decide +kernel, by decide +kernel⟩, List.mem_of_getElem? (i := 760) (by decide +kernel), List.mem_of_getElem? (i := 831) (by decide +kernel), List.mem_of_getElem? (i := 832) (by decide +kernel)⟩
theorem lw_p14 : lw_okq (⟨"PageRotasModel", "isRegion", "(I)Z"⟩, 11) := ⟨⟨by decide +kernel, by decide +kernel⟩, List.mem_of_getElem? (i := 760) (by decide +kernel), List.mem_of_getElem? (i := 835) (by decide +kernel), List.mem_of_getElem? (i := 836) (by decide +kernel)⟩
theorem lw_p15 : lw_okq (⟨"PageRotasModel", "isPerson", "(I)Z"⟩, 11) := ⟨⟨by decide +kernel, by decide +kernel⟩, List.mem_of_getElem? (i := 760) (by decide +kernel), List.mem_of_getElem? (i := 839) (by decide +kernel), List.mem_of_getElem? (i := 840) (by decide +kernel)⟩
def lw_privs_1 : List (MethodName × Nat) := [(⟨"PageRotas", "settled", "(I)I"⟩, 4), (⟨"PageRotas$History", "dropOldest", "()V"⟩, 2), (⟨"PageRotas$House", "fold", "(LPageRotas$Incident;I)Z"⟩, 6), (⟨"PageRotas$House", "page", "(LPageRotas$Incident;I)V"⟩, 6), (⟨"PageRotas$House", "age", "(LPageRotas$Incident;I)Z"⟩, 6), (⟨"PageRotas$Script", "readCommand", "(I)I"⟩, 7), (⟨"PageRotas$Script", "signAt", "(I)C"⟩, 7), (⟨"PageRotas$Script", "readNumber", "(IIC)I"⟩, 7), (⟨"PageRotas$Script", "obey", "(LPageRotas$House;)I"⟩, 7), (⟨"PageRotasModel", "begins", "()V"⟩, 11), (⟨"PageRotasModel", "comes", "()I"⟩, 11), (⟨"PageRotasModel", "acted", "(I)I"⟩, 11), (⟨"PageRotasModel", "lies", "(III)I"⟩, 11), (⟨"PageRotasModel", "joins", "(II)I"⟩, 11), (⟨"PageRotasModel", "isRegion", "(I)Z"⟩, 11), (⟨"PageRotasModel", "isPerson", "(I)Z"⟩, 11)]
theorem lw_r1 : ∀ q ∈ lw_privs_1, lw_okq q := List.forall_mem_cons.mpr ⟨lw_p0, List.forall_mem_cons.mpr ⟨lw_p1, List.forall_mem_cons.mpr ⟨lw_p2, List.forall_mem_cons.mpr ⟨lw_p3, List.forall_mem_cons.mpr ⟨lw_p4, List.forall_mem_cons.mpr ⟨lw_p5, List.forall_mem_cons.mpr ⟨lw_p6, List.forall_mem_cons.mpr ⟨lw_p7, List.forall_mem_cons.mpr ⟨lw_p8, List.forall_mem_cons.mpr ⟨lw_p9, List.forall_mem_cons.mpr ⟨lw_p10, List.forall_mem_cons.mpr ⟨lw_p11, List.forall_mem_cons.mpr ⟨lw_p12, List.forall_mem_cons.mpr ⟨lw_p13, List.forall_mem_cons.mpr ⟨lw_p14, List.forall_mem_cons.mpr ⟨lw_p15, fun _ h => absurd h List.not_mem_nil⟩⟩⟩⟩⟩⟩⟩⟩⟩⟩⟩⟩⟩⟩⟩⟩
theorem lw_p16 : lw_okq (⟨"PageRotasModel", "placeIn", "(II)I"⟩, 11) := ⟨⟨by decide +kernel, by decide +kernel⟩, List.mem_of_getElem? (i := 760) (by decide +kernel), List.mem_of_getElem? (i := 843) (by decide +kernel), List.mem_of_getElem? (i := 844) (by decide +kernel)⟩
theorem lw_p17 : lw_okq (⟨"PageRotasModel", "ofWhere", "(II)I"⟩, 11) := ⟨⟨by decide +kernel, by decide +kernel⟩, List.mem_of_getElem? (i := 760) (by decide +kernel), List.mem_of_getElem? (i := 847) (by decide +kernel), List.mem_of_getElem? (i := 848) (by decide +kernel)⟩
theorem lw_p18 : lw_okq (⟨"PageRotasModel", "leaves", "(II)I"⟩, 11) := ⟨⟨by decide +kernel, by decide +kernel⟩, List.mem_of_getElem? (i := 760) (by decide +kernel), List.mem_of_getElem? (i := 855) (by decide +kernel), List.mem_of_getElem? (i := 856) (by decide +kernel)⟩
theorem lw_p19 : lw_okq (⟨"PageRotasModel", "rests", "(III)I"⟩, 11) := ⟨⟨by decide +kernel, by decide +kernel⟩, List.mem_of_getElem? (i := 760) (by decide +kernel), List.mem_of_getElem? (i := 863) (by decide +kernel), List.mem_of_getElem? (i := 864) (by decide +kernel)⟩
theorem lw_p20 : lw_okq (⟨"PageRotasModel", "excepts", "(II)I"⟩, 11) := ⟨⟨by decide +kernel, by decide +kernel⟩, List.mem_of_getElem? (i := 760) (by decide +kernel), List.mem_of_getElem? (i := 871) (by decide +kernel), List.mem_of_getElem? (i := 872) (by decide +kernel)⟩
theorem lw_p21 : lw_okq (⟨"PageRotasModel", "ofWho", "(II)I"⟩, 11) := ⟨⟨by decide +kernel, by decide +kernel⟩, List.mem_of_getElem? (i := 760) (by decide +kernel), List.mem_of_getElem? (i := 875) (by decide +kernel), List.mem_of_getElem? (i := 876) (by decide +kernel)⟩
theorem lw_p22 : lw_okq (⟨"PageRotasModel", "overrides", "(III)I"⟩, 11) := ⟨⟨by decide +kernel, by decide +kernel⟩, List.mem_of_getElem? (i := 760) (by decide +kernel), List.mem_of_getElem? (i := 886) (by decide +kernel), List.mem_of_getElem? (i := 887) (by decide +kernel)⟩
theorem lw_p23 : lw_okq (⟨"PageRotasModel", "inForce", "()I"⟩, 11) := ⟨⟨by decide +kernel, by decide +kernel⟩, List.mem_of_getElem? (i := 760) (by decide +kernel), List.mem_of_getElem? (i := 890) (by decide +kernel), List.mem_of_getElem? (i := 891) (by decide +kernel)⟩
theorem lw_p24 : lw_okq (⟨"PageRotasModel", "clears", "()V"⟩, 11) := ⟨⟨by decide +kernel, by decide +kernel⟩, List.mem_of_getElem? (i := 760) (by decide +kernel), List.mem_of_getElem? (i := 894) (by decide +kernel), List.mem_of_getElem? (i := 895) (by decide +kernel)⟩
theorem lw_p25 : lw_okq (⟨"PageRotasModel", "alerts", "(II)I"⟩, 11) := ⟨⟨by decide +kernel, by decide +kernel⟩, List.mem_of_getElem? (i := 760) (by decide +kernel), List.mem_of_getElem? (i := 902) (by decide +kernel), List.mem_of_getElem? (i := 903) (by decide +kernel)⟩
theorem lw_p26 : lw_okq (⟨"PageRotasModel", "foldsInto", "(I)I"⟩, 11) := ⟨⟨by decide +kernel, by decide +kernel⟩, List.mem_of_getElem? (i := 760) (by decide +kernel), List.mem_of_getElem? (i := 906) (by decide +kernel), List.mem_of_getElem? (i := 907) (by decide +kernel)⟩
theorem lw_p27 : lw_okq (⟨"PageRotasModel", "isIncident", "(I)Z"⟩, 11) := ⟨⟨by decide +kernel, by decide +kernel⟩, List.mem_of_getElem? (i := 760) (by decide +kernel), List.mem_of_getElem? (i := 913) (by decide +kernel), List.mem_of_getElem? (i := 914) (by decide +kernel)⟩
theorem lw_p28 : lw_okq (⟨"PageRotasModel", "opens", "(II)I"⟩, 11) := ⟨⟨by decide +kernel, by decide +kernel⟩, List.mem_of_getElem? (i := 760) (by decide +kernel), List.mem_of_getElem? (i := 917) (by decide +kernel), List.mem_of_getElem? (i := 918) (by decide +kernel)⟩
theorem lw_p29 : lw_okq (⟨"PageRotasModel", "lowestFree", "()I"⟩, 11) := ⟨⟨by decide +kernel, by decide +kernel⟩, List.mem_of_getElem? (i := 760) (by decide +kernel), List.mem_of_getElem? (i := 921) (by decide +kernel), List.mem_of_getElem? (i := 922) (by decide +kernel)⟩
theorem lw_p30 : lw_okq (⟨"PageRotasModel", "pages", "(I)V"⟩, 11) := ⟨⟨by decide +kernel, by decide +kernel⟩, List.mem_of_getElem? (i := 760) (by decide +kernel), List.mem_of_getElem? (i := 925) (by decide +kernel), List.mem_of_getElem? (i := 926) (by decide +kernel)⟩
theorem lw_p31 : lw_okq (⟨"PageRotasModel", "personAt", "(II)I"⟩, 11) := ⟨⟨by decide +kernel, by decide +kernel⟩, List.mem_of_getElem? (i := 760) (by decide +kernel), List.mem_of_getElem? (i := 929) (by decide +kernel), List.mem_of_getElem? (i := 930) (by decide +kernel)⟩
def lw_privs_2 : List (MethodName × Nat) := [(⟨"PageRotasModel", "placeIn", "(II)I"⟩, 11), (⟨"PageRotasModel", "ofWhere", "(II)I"⟩, 11), (⟨"PageRotasModel", "leaves", "(II)I"⟩, 11), (⟨"PageRotasModel", "rests", "(III)I"⟩, 11), (⟨"PageRotasModel", "excepts", "(II)I"⟩, 11), (⟨"PageRotasModel", "ofWho", "(II)I"⟩, 11), (⟨"PageRotasModel", "overrides", "(III)I"⟩, 11), (⟨"PageRotasModel", "inForce", "()I"⟩, 11), (⟨"PageRotasModel", "clears", "()V"⟩, 11), (⟨"PageRotasModel", "alerts", "(II)I"⟩, 11), (⟨"PageRotasModel", "foldsInto", "(I)I"⟩, 11), (⟨"PageRotasModel", "isIncident", "(I)Z"⟩, 11), (⟨"PageRotasModel", "opens", "(II)I"⟩, 11), (⟨"PageRotasModel", "lowestFree", "()I"⟩, 11), (⟨"PageRotasModel", "pages", "(I)V"⟩, 11), (⟨"PageRotasModel", "personAt", "(II)I"⟩, 11)]
theorem lw_r2 : ∀ q ∈ lw_privs_2, lw_okq q := List.forall_mem_cons.mpr ⟨lw_p16, List.forall_mem_cons.mpr ⟨lw_p17, List.forall_mem_cons.mpr ⟨lw_p18, List.forall_mem_cons.mpr ⟨lw_p19, List.forall_mem_cons.mpr ⟨lw_p20, List.forall_mem_cons.mpr ⟨lw_p21, List.forall_mem_cons.mpr ⟨lw_p22, List.forall_mem_cons.mpr ⟨lw_p23, List.forall_mem_cons.mpr ⟨lw_p24, List.forall_mem_cons.mpr ⟨lw_p25, List.forall_mem_cons.mpr ⟨lw_p26, List.forall_mem_cons.mpr ⟨lw_p27, List.forall_mem_cons.mpr ⟨lw_p28, List.forall_mem_cons.mpr ⟨lw_p29, List.forall_mem_cons.mpr ⟨lw_p30, List.forall_mem_cons.mpr ⟨lw_p31, fun _ h => absurd h List.not_mem_nil⟩⟩⟩⟩⟩⟩⟩⟩⟩⟩⟩⟩⟩⟩⟩⟩
theorem lw_p32 : lw_okq (⟨"PageRotasModel", "regionAt", "(I)I"⟩, 11) := ⟨⟨by decide +kernel, by decide +kernel⟩, List.mem_of_getElem? (i := 760) (by decide +kernel), List.mem_of_getElem? (i := 933) (by decide +kernel), List.mem_of_getElem? (i := 934) (by decide +kernel)⟩
theorem lw_p33 : lw_okq (⟨"PageRotasModel", "covers", "(II)Z"⟩, 11) := ⟨⟨by decide +kernel, by decide +kernel⟩, List.mem_of_getElem? (i := 760) (by decide +kernel), List.mem_of_getElem? (i := 937) (by decide +kernel), List.mem_of_getElem? (i := 938) (by decide +kernel)⟩
theorem lw_p34 : lw_okq (⟨"PageRotasModel", "isQuiet", "(II)Z"⟩, 11) := ⟨⟨by decide +kernel, by decide +kernel⟩, List.mem_of_getElem? (i := 760) (by decide +kernel), List.mem_of_getElem? (i := 944) (by decide +kernel), List.mem_of_getElem? (i := 945) (by decide +kernel)⟩
theorem lw_p35 : lw_okq (⟨"PageRotasModel", "isException", "(II)Z"⟩, 11) := ⟨⟨by decide +kernel, by decide +kernel⟩, List.mem_of_getElem? (i := 760) (by decide +kernel), List.mem_of_getElem? (i := 948) (by decide +kernel), List.mem_of_getElem? (i := 949) (by decide +kernel)⟩
theorem lw_p36 : lw_okq (⟨"PageRotasModel", "acknowledges", "(I)I"⟩, 11) := ⟨⟨by decide +kernel, by decide +kernel⟩, List.mem_of_getElem? (i := 760) (by decide +kernel), List.mem_of_getElem? (i := 956) (by decide +kernel), List.mem_of_getElem? (i := 957) (by decide +kernel)⟩
theorem lw_p37 : lw_okq (⟨"PageRotasModel", "resolves", "(I)I"⟩, 11) := ⟨⟨by decide +kernel, by decide +kernel⟩, List.mem_of_getElem? (i := 760) (by decide +kernel), List.mem_of_getElem? (i := 964) (by decide +kernel), List.mem_of_getElem? (i := 965) (by decide +kernel)⟩
theorem lw_p38 : lw_okq (⟨"PageRotasModel", "passes", "(I)I"⟩, 11) := ⟨⟨by decide +kernel, by decide +kernel⟩, List.mem_of_getElem? (i := 760) (by decide +kernel), List.mem_of_getElem? (i := 972) (by decide +kernel), List.mem_of_getElem? (i := 973) (by decide +kernel)⟩
theorem lw_p39 : lw_okq (⟨"PageRotasModel", "minute", "()V"⟩, 11) := ⟨⟨by decide +kernel, by decide +kernel⟩, List.mem_of_getElem? (i := 760) (by decide +kernel), List.mem_of_getElem? (i := 976) (by decide +kernel), List.mem_of_getElem? (i := 977) (by decide +kernel)⟩
theorem lw_p40 : lw_okq (⟨"PageRotasModel", "minuteOf", "(I)V"⟩, 11) := ⟨⟨by decide +kernel, by decide +kernel⟩, List.mem_of_getElem? (i := 760) (by decide +kernel), List.mem_of_getElem? (i := 980) (by decide +kernel), List.mem_of_getElem? (i := 981) (by decide +kernel)⟩
theorem lw_p41 : lw_okq (⟨"PageRotasModel", "sets", "(II)I"⟩, 11) := ⟨⟨by decide +kernel, by decide +kernel⟩, List.mem_of_getElem? (i := 760) (by decide +kernel), List.mem_of_getElem? (i := 988) (by decide +kernel), List.mem_of_getElem? (i := 989) (by decide +kernel)⟩
theorem lw_p42 : lw_okq (⟨"PageRotasModel", "ownedBy", "(IZ)I"⟩, 11) := ⟨⟨by decide +kernel, by decide +kernel⟩, List.mem_of_getElem? (i := 760) (by decide +kernel), List.mem_of_getElem? (i := 1000) (by decide +kernel), List.mem_of_getElem? (i := 1001) (by decide +kernel)⟩
theorem lw_p43 : lw_okq (⟨"PageRotasModel", "rotasOf", "(I)I"⟩, 11) := ⟨⟨by decide +kernel, by decide +kernel⟩, List.mem_of_getElem? (i := 760) (by decide +kernel), List.mem_of_getElem? (i := 1004) (by decide +kernel), List.mem_of_getElem? (i := 1005) (by decide +kernel)⟩
theorem lw_p44 : lw_okq (⟨"PageRotasModel", "openOnes", "(I)I"⟩, 11) := ⟨⟨by decide +kernel, by decide +kernel⟩, List.mem_of_getElem? (i := 760) (by decide +kernel), List.mem_of_getElem? (i := 1016) (by decide +kernel), List.mem_of_getElem? (i := 1017) (by decide +kernel)⟩
theorem lw_p45 : lw_okq (⟨"PageRotasModel", "does", "()I"⟩, 11) := ⟨⟨by decide +kernel, by decide +kernel⟩, List.mem_of_getElem? (i := 760) (by decide +kernel), List.mem_of_getElem? (i := 1066) (by decide +kernel), List.mem_of_getElem? (i := 1067) (by decide +kernel)⟩
theorem lw_p46 : lw_okq (⟨"PageRotasModel", "command", "()I"⟩, 11) := ⟨⟨by decide +kernel, by decide +kernel⟩, List.mem_of_getElem? (i := 760) (by decide +kernel), List.mem_of_getElem? (i := 1070) (by decide +kernel), List.mem_of_getElem? (i := 1071) (by decide +kernel)⟩
theorem lw_p47 : lw_okq (⟨"PageRotasModel", "here", "()I"⟩, 11) := ⟨⟨by decide +kernel, by decide +kernel⟩, List.mem_of_getElem? (i := 760) (by decide +kernel), List.mem_of_getElem? (i := 1074) (by decide +kernel), List.mem_of_getElem? (i := 1075) (by decide +kernel)⟩
def lw_privs_3 : List (MethodName × Nat) := [(⟨"PageRotasModel", "regionAt", "(I)I"⟩, 11), (⟨"PageRotasModel", "covers", "(II)Z"⟩, 11), (⟨"PageRotasModel", "isQuiet", "(II)Z"⟩, 11), (⟨"PageRotasModel", "isException", "(II)Z"⟩, 11), (⟨"PageRotasModel", "acknowledges", "(I)I"⟩, 11), (⟨"PageRotasModel", "resolves", "(I)I"⟩, 11), (⟨"PageRotasModel", "passes", "(I)I"⟩, 11), (⟨"PageRotasModel", "minute", "()V"⟩, 11), (⟨"PageRotasModel", "minuteOf", "(I)V"⟩, 11), (⟨"PageRotasModel", "sets", "(II)I"⟩, 11), (⟨"PageRotasModel", "ownedBy", "(IZ)I"⟩, 11), (⟨"PageRotasModel", "rotasOf", "(I)I"⟩, 11), (⟨"PageRotasModel", "openOnes", "(I)I"⟩, 11), (⟨"PageRotasModel", "does", "()I"⟩, 11), (⟨"PageRotasModel", "command", "()I"⟩, 11), (⟨"PageRotasModel", "here", "()I"⟩, 11)]
theorem lw_r3 : ∀ q ∈ lw_privs_3, lw_okq q := List.forall_mem_cons.mpr ⟨lw_p32, List.forall_mem_cons.mpr ⟨lw_p33, List.forall_mem_cons.mpr ⟨lw_p34, List.forall_mem_cons.mpr ⟨lw_p35, List.forall_mem_cons.mpr ⟨lw_p36, List.forall_mem_cons.mpr ⟨lw_p37, List.forall_mem_cons.mpr ⟨lw_p38, List.forall_mem_cons.mpr ⟨lw_p39, List.forall_mem_cons.mpr ⟨lw_p40, List.forall_mem_cons.mpr ⟨lw_p41, List.forall_mem_cons.mpr ⟨lw_p42, List.forall_mem_cons.mpr ⟨lw_p43, List.forall_mem_cons.mpr ⟨lw_p44, List.forall_mem_cons.mpr ⟨lw_p45, List.forall_mem_cons.mpr ⟨lw_p46, List.forall_mem_cons.mpr ⟨lw_p47, fun _ h => absurd h List.not_mem_nil⟩⟩⟩⟩⟩⟩⟩⟩⟩⟩⟩⟩⟩⟩⟩⟩
theorem lw_p48 : lw_okq (⟨"PageRotasModel", "readNumber", "(I)I"⟩, 11) := ⟨⟨by decide +kernel, by decide +kernel⟩, List.mem_of_getElem? (i := 760) (by decide +kernel), List.mem_of_getElem? (i := 1078) (by decide +kernel), List.mem_of_getElem? (i := 1079) (by decide +kernel)⟩
theorem lw_p49 : lw_okq (⟨"PageRotasModel", "must", "(I)V"⟩, 11) := ⟨⟨by decide +kernel, by decide +kernel⟩, List.mem_of_getElem? (i := 760) (by decide +kernel), List.mem_of_getElem? (i := 1082) (by decide +kernel), List.mem_of_getElem? (i := 1083) (by decide +kernel)⟩
theorem lw_p50 : lw_okq (⟨"PageRotasModel", "returns", "()V"⟩, 11) := ⟨⟨by decide +kernel, by decide +kernel⟩, List.mem_of_getElem? (i := 760) (by decide +kernel), List.mem_of_getElem? (i := 1086) (by decide +kernel), List.mem_of_getElem? (i := 1087) (by decide +kernel)⟩
def lw_privs_4 : List (MethodName × Nat) := [(⟨"PageRotasModel", "readNumber", "(I)I"⟩, 11), (⟨"PageRotasModel", "must", "(I)V"⟩, 11), (⟨"PageRotasModel", "returns", "()V"⟩, 11)]
theorem lw_r4 : ∀ q ∈ lw_privs_4, lw_okq q := List.forall_mem_cons.mpr ⟨lw_p48, List.forall_mem_cons.mpr ⟨lw_p49, List.forall_mem_cons.mpr ⟨lw_p50, fun _ h => absurd h List.not_mem_nil⟩⟩⟩
def lw_privs : List (MethodName × Nat) := lw_privs_1 ++ (lw_privs_2 ++ (lw_privs_3 ++ (lw_privs_4)))
def lw_tbl : List Cond := k2_sels lw_privs ++ tables_1
theorem lw_privs_ok : ∀ q ∈ lw_privs, lw_okq q := by
  show ∀ q ∈ lw_privs_1 ++ (lw_privs_2 ++ (lw_privs_3 ++ (lw_privs_4))), lw_okq q
  exact List.forall_mem_append.mpr ⟨lw_r1, List.forall_mem_append.mpr ⟨lw_r2, List.forall_mem_append.mpr ⟨lw_r3, lw_r4⟩⟩⟩
/-- the streams that the claim lets the run draw from -/
abbrev lw_cs : List Choice := [Jvm.Choice.named "NaN.bits"]
theorem lw_bits : nanBits ∈ lw_cs := by first | decide | exact List.mem_cons_self | simp [lw_cs, nanBits]
/-! ===== BEGIN words of one list among another's, by their places ===== -/
  intro w hw
  have h1 := List.all_eq_true.mp h w hw
  rw [hp] at hw
  obtain ⟨i, -, hi⟩ := List.mem_filterMap.mp hw
  have hm : w ∈ big := by first | exact List.mem_of_getElem? hi | exact List.getElem?_mem hi
  exact ⟨hm, good_of_word h1⟩
/-! ===== END ===== -/

/-! ===== BEGIN printed: names, fields, word lists, decode rows ===== -/
def RX0 : String := "PageRotas$History"
def TX0 : u_T := fun k => match k with
  | 0 => ("PageRotas$History", "states", "[LPageRotas$House;", true)
  | _ => ("PageRotas$History", "size", "I", false)
def tyX0 : Nat → FieldType := fun k => match k with
  | 0 => .array (.object "PageRotas$House")
  | _ => .int
abbrev wsX00 : List Cond := u_ws RX0 TX0 2
theorem nmX0 : ∀ a, a < 2 → ∀ b, b < 2 → a ≠ b → (TX0 a).2.1 ≠ (TX0 b).2.1 := by decide +kernel
theorem tyX0_ok : ∀ k, k < 2 → parseFieldDescriptor (TX0 k).2.2.1 = some (tyX0 k) := by decide +kernel
abbrev cX0_init : ByteArray := prog_2_method_1_code
def yX0_init : MethodName := ⟨RX0, "<init>", "()V"⟩
abbrev cX0_prepare : ByteArray := prog_2_method_2_code
def yX0_prepare : MethodName := ⟨RX0, "prepare", "(LPageRotas$House;)V"⟩
abbrev cX0_keepPrepared : ByteArray := prog_2_method_3_code
def yX0_keepPrepared : MethodName := ⟨RX0, "keepPrepared", "()V"⟩
abbrev cX0_dropOldest : ByteArray := prog_2_method_4_code
def yX0_dropOldest : MethodName := ⟨RX0, "dropOldest", "()V"⟩
abbrev cX0_restore : ByteArray := prog_2_method_5_code
def yX0_restore : MethodName := ⟨RX0, "restore", "(LPageRotas$House;)V"⟩
def RX1 : String := "PageRotas$House"
def TX1 : u_T := fun k => match k with
  | 0 => ("PageRotas$House", "rotas", "LPageRotas$Rotas;", true)
  | 1 => ("PageRotas$House", "incidents", "[LPageRotas$Incident;", true)
  | 2 => ("PageRotas$House", "totals", "LPageRotas$Totals;", true)
  | 3 => ("PageRotas$House", "time", "I", false)
  | 4 => ("PageRotas$House", "escalateAfter", "I", false)
  | _ => ("PageRotas$House", "foldWithin", "I", false)
def tyX1 : Nat → FieldType := fun k => match k with
  | 0 => .object "PageRotas$Rotas"
  | 1 => .array (.object "PageRotas$Incident")
  | 2 => .object "PageRotas$Totals"
  | 3 => .int
  | 4 => .int
  | _ => .int
abbrev wsX10 : List Cond := u_ws RX1 TX1 6
theorem nmX1 : ∀ a, a < 6 → ∀ b, b < 6 → a ≠ b → (TX1 a).2.1 ≠ (TX1 b).2.1 := by decide +kernel
theorem tyX1_ok : ∀ k, k < 6 → parseFieldDescriptor (TX1 k).2.2.1 = some (tyX1 k) := by decide +kernel
abbrev cX1_init : ByteArray := prog_3_method_1_code
def yX1_init : MethodName := ⟨RX1, "<init>", "()V"⟩
abbrev cX1_copyFrom : ByteArray := prog_3_method_2_code
def yX1_copyFrom : MethodName := ⟨RX1, "copyFrom", "(LPageRotas$House;)V"⟩
abbrev cX1_isOpen : ByteArray := prog_3_method_3_code
def yX1_isOpen : MethodName := ⟨RX1, "isOpen", "(I)Z"⟩
abbrev cX1_openIncidents : ByteArray := prog_3_method_4_code
def yX1_openIncidents : MethodName := ⟨RX1, "openIncidents", "()I"⟩
abbrev cX1_acknowledgedIncidents : ByteArray := prog_3_method_5_code
def yX1_acknowledgedIncidents : MethodName := ⟨RX1, "acknowledgedIncidents", "()I"⟩
abbrev cX1_ownedBy : ByteArray := prog_3_method_6_code
def yX1_ownedBy : MethodName := ⟨RX1, "ownedBy", "(IZ)I"⟩
abbrev cX1_putStandIn : ByteArray := prog_3_method_7_code
def yX1_putStandIn : MethodName := ⟨RX1, "putStandIn", "(III)I"⟩
abbrev cX1_putSetting : ByteArray := prog_3_method_8_code
def yX1_putSetting : MethodName := ⟨RX1, "putSetting", "(II)I"⟩
abbrev cX1_takeAlert : ByteArray := prog_3_method_9_code
def yX1_takeAlert : MethodName := ⟨RX1, "takeAlert", "(II)I"⟩
abbrev cX1_fold : ByteArray := prog_3_method_10_code
def yX1_fold : MethodName := ⟨RX1, "fold", "(LPageRotas$Incident;I)Z"⟩
abbrev cX1_page : ByteArray := prog_3_method_11_code
def yX1_page : MethodName := ⟨RX1, "page", "(LPageRotas$Incident;I)V"⟩
abbrev cX1_takeAcknowledgement : ByteArray := prog_3_method_12_code
def yX1_takeAcknowledgement : MethodName := ⟨RX1, "takeAcknowledgement", "(I)I"⟩
abbrev cX1_close : ByteArray := prog_3_method_13_code
def yX1_close : MethodName := ⟨RX1, "close", "(I)I"⟩
abbrev cX1_letPass : ByteArray := prog_3_method_14_code
def yX1_letPass : MethodName := ⟨RX1, "letPass", "(I)I"⟩
abbrev cX1_follow : ByteArray := prog_3_method_15_code
def yX1_follow : MethodName := ⟨RX1, "follow", "(II)V"⟩
abbrev cX1_age : ByteArray := prog_3_method_16_code
def yX1_age : MethodName := ⟨RX1, "age", "(LPageRotas$Incident;I)Z"⟩
def RX2 : String := "PageRotas$Incident"
def TX2 : u_T := fun k => match k with
  | 0 => ("PageRotas$Incident", "open", "Z", false)
  | 1 => ("PageRotas$Incident", "cause", "I", false)
  | 2 => ("PageRotas$Incident", "severity", "I", false)
  | 3 => ("PageRotas$Incident", "level", "I", false)
  | 4 => ("PageRotas$Incident", "owner", "I", false)
  | 5 => ("PageRotas$Incident", "region", "I", false)
  | 6 => ("PageRotas$Incident", "pagedAt", "I", false)
  | 7 => ("PageRotas$Incident", "acknowledged", "Z", false)
  | 8 => ("PageRotas$Incident", "alerts", "I", false)
  | 9 => ("PageRotas$Incident", "firstAlert", "I", false)
  | 10 => ("PageRotas$Incident", "latestAlert", "I", false)
  | 11 => ("PageRotas$Incident", "unowned", "I", false)
  | 12 => ("PageRotas$Incident", "handOffs", "I", false)
  | _ => ("PageRotas$Incident", "escalations", "I", false)
def tyX2 : Nat → FieldType := fun k => match k with
  | 0 => .boolean
  | 1 => .int
  | 2 => .int
  | 3 => .int
  | 4 => .int
  | 5 => .int
  | 6 => .int
  | 7 => .boolean
  | 8 => .int
  | 9 => .int
  | 10 => .int
  | 11 => .int
  | 12 => .int
  | _ => .int
abbrev wsX20 : List Cond := u_ws RX2 TX2 14
theorem nmX2 : ∀ a, a < 14 → ∀ b, b < 14 → a ≠ b → (TX2 a).2.1 ≠ (TX2 b).2.1 := by decide +kernel
theorem tyX2_ok : ∀ k, k < 14 → parseFieldDescriptor (TX2 k).2.2.1 = some (tyX2 k) := by decide +kernel
abbrev cX2_init : ByteArray := prog_4_method_1_code
def yX2_init : MethodName := ⟨RX2, "<init>", "()V"⟩
abbrev cX2_copyFrom : ByteArray := prog_4_method_2_code
def yX2_copyFrom : MethodName := ⟨RX2, "copyFrom", "(LPageRotas$Incident;)V"⟩
abbrev cX2_makeNew : ByteArray := prog_4_method_3_code
def yX2_makeNew : MethodName := ⟨RX2, "makeNew", "(III)V"⟩
def RX3 : String := "PageRotas$Person"
def TX3 : u_T := fun k => match k with
  | 0 => ("PageRotas$Person", "quiet", "LPageRotas$Span;", true)
  | 1 => ("PageRotas$Person", "exceptions", "I", false)
  | 2 => ("PageRotas$Person", "pages", "I", false)
  | _ => ("PageRotas$Person", "resolved", "I", false)
def tyX3 : Nat → FieldType := fun k => match k with
  | 0 => .object "PageRotas$Span"
  | 1 => .int
  | 2 => .int
  | _ => .int
abbrev wsX30 : List Cond := u_ws RX3 TX3 4
theorem nmX3 : ∀ a, a < 4 → ∀ b, b < 4 → a ≠ b → (TX3 a).2.1 ≠ (TX3 b).2.1 := by decide +kernel
theorem tyX3_ok : ∀ k, k < 4 → parseFieldDescriptor (TX3 k).2.2.1 = some (tyX3 k) := by decide +kernel
abbrev cX3_init : ByteArray := prog_5_method_1_code
def yX3_init : MethodName := ⟨RX3, "<init>", "()V"⟩
abbrev cX3_copyFrom : ByteArray := prog_5_method_2_code
def yX3_copyFrom : MethodName := ⟨RX3, "copyFrom", "(LPageRotas$Person;)V"⟩
abbrev cX3_sleepsThrough : ByteArray := prog_5_method_3_code
def yX3_sleepsThrough : MethodName := ⟨RX3, "sleepsThrough", "(III)Z"⟩
def RX4 : String := "PageRotas$Region"
def TX4 : u_T := fun k => match k with
  | 0 => ("PageRotas$Region", "hours", "LPageRotas$Span;", true)
  | 1 => ("PageRotas$Region", "rota", "[I", true)
  | 2 => ("PageRotas$Region", "shift", "I", false)
  | _ => ("PageRotas$Region", "size", "I", false)
def tyX4 : Nat → FieldType := fun k => match k with
  | 0 => .object "PageRotas$Span"
  | 1 => .array .int
  | 2 => .int
  | _ => .int
abbrev wsX40 : List Cond := u_ws RX4 TX4 4
theorem nmX4 : ∀ a, a < 4 → ∀ b, b < 4 → a ≠ b → (TX4 a).2.1 ≠ (TX4 b).2.1 := by decide +kernel
theorem tyX4_ok : ∀ k, k < 4 → parseFieldDescriptor (TX4 k).2.2.1 = some (tyX4 k) := by decide +kernel
abbrev cX4_init : ByteArray := prog_6_method_1_code
def yX4_init : MethodName := ⟨RX4, "<init>", "()V"⟩
abbrev cX4_copyFrom : ByteArray := prog_6_method_2_code
def yX4_copyFrom : MethodName := ⟨RX4, "copyFrom", "(LPageRotas$Region;)V"⟩
abbrev cX4_put : ByteArray := prog_6_method_3_code
def yX4_put : MethodName := ⟨RX4, "put", "(III)V"⟩
abbrev cX4_covers : ByteArray := prog_6_method_4_code
def yX4_covers : MethodName := ⟨RX4, "covers", "(I)Z"⟩
abbrev cX4_memberAt : ByteArray := prog_6_method_5_code
def yX4_memberAt : MethodName := ⟨RX4, "memberAt", "(I)I"⟩
abbrev cX4_placeOf : ByteArray := prog_6_method_6_code
def yX4_placeOf : MethodName := ⟨RX4, "placeOf", "(I)I"⟩
abbrev cX4_add : ByteArray := prog_6_method_7_code
def yX4_add : MethodName := ⟨RX4, "add", "(I)I"⟩
abbrev cX4_remove : ByteArray := prog_6_method_8_code
def yX4_remove : MethodName := ⟨RX4, "remove", "(I)I"⟩
def RX5 : String := "PageRotas$Rotas"
def TX5 : u_T := fun k => match k with
  | 0 => ("PageRotas$Rotas", "people", "[LPageRotas$Person;", true)
  | 1 => ("PageRotas$Rotas", "regions", "[LPageRotas$Region;", true)
  | 2 => ("PageRotas$Rotas", "standIns", "[LPageRotas$StandIn;", true)
  | 3 => ("PageRotas$Rotas", "peopleCount", "I", false)
  | 4 => ("PageRotas$Rotas", "regionCount", "I", false)
  | _ => ("PageRotas$Rotas", "standInCount", "I", false)
def tyX5 : Nat → FieldType := fun k => match k with
  | 0 => .array (.object "PageRotas$Person")
  | 1 => .array (.object "PageRotas$Region")
  | 2 => .array (.object "PageRotas$StandIn")
  | 3 => .int
  | 4 => .int
  | _ => .int
abbrev wsX50 : List Cond := u_ws RX5 TX5 6
theorem nmX5 : ∀ a, a < 6 → ∀ b, b < 6 → a ≠ b → (TX5 a).2.1 ≠ (TX5 b).2.1 := by decide +kernel
theorem tyX5_ok : ∀ k, k < 6 → parseFieldDescriptor (TX5 k).2.2.1 = some (tyX5 k) := by decide +kernel
abbrev cX5_init : ByteArray := prog_7_method_1_code
def yX5_init : MethodName := ⟨RX5, "<init>", "()V"⟩
abbrev cX5_copyFrom : ByteArray := prog_7_method_2_code
def yX5_copyFrom : MethodName := ⟨RX5, "copyFrom", "(LPageRotas$Rotas;)V"⟩
abbrev cX5_hasPerson : ByteArray := prog_7_method_3_code
def yX5_hasPerson : MethodName := ⟨RX5, "hasPerson", "(I)Z"⟩
abbrev cX5_hasRegion : ByteArray := prog_7_method_4_code
def yX5_hasRegion : MethodName := ⟨RX5, "hasRegion", "(I)Z"⟩
abbrev cX5_addPerson : ByteArray := prog_7_method_5_code
def yX5_addPerson : MethodName := ⟨RX5, "addPerson", "()I"⟩
abbrev cX5_addRegion : ByteArray := prog_7_method_6_code
def yX5_addRegion : MethodName := ⟨RX5, "addRegion", "(III)I"⟩
abbrev cX5_letJoin : ByteArray := prog_7_method_7_code
def yX5_letJoin : MethodName := ⟨RX5, "letJoin", "(II)I"⟩
abbrev cX5_letLeave : ByteArray := prog_7_method_8_code
def yX5_letLeave : MethodName := ⟨RX5, "letLeave", "(II)I"⟩
abbrev cX5_putQuietHours : ByteArray := prog_7_method_9_code
def yX5_putQuietHours : MethodName := ⟨RX5, "putQuietHours", "(III)I"⟩
abbrev cX5_turnException : ByteArray := prog_7_method_10_code
def yX5_turnException : MethodName := ⟨RX5, "turnException", "(II)I"⟩
abbrev cX5_regionsOf : ByteArray := prog_7_method_11_code
def yX5_regionsOf : MethodName := ⟨RX5, "regionsOf", "(I)I"⟩
abbrev cX5_standInsAt : ByteArray := prog_7_method_12_code
def yX5_standInsAt : MethodName := ⟨RX5, "standInsAt", "(I)I"⟩
abbrev cX5_dropEndedStandIns : ByteArray := prog_7_method_13_code
def yX5_dropEndedStandIns : MethodName := ⟨RX5, "dropEndedStandIns", "(I)V"⟩
abbrev cX5_addStandIn : ByteArray := prog_7_method_14_code
def yX5_addStandIn : MethodName := ⟨RX5, "addStandIn", "(IIII)I"⟩
abbrev cX5_regionAt : ByteArray := prog_7_method_15_code
def yX5_regionAt : MethodName := ⟨RX5, "regionAt", "(I)I"⟩
abbrev cX5_personAt : ByteArray := prog_7_method_16_code
def yX5_personAt : MethodName := ⟨RX5, "personAt", "(III)I"⟩
def RX6 : String := "PageRotas$Script"
def TX6 : u_T := fun k => match k with
  | 0 => ("PageRotas$Script", "signs", "[C", true)
  | 1 => ("PageRotas$Script", "numbers", "[I", true)
  | 2 => ("PageRotas$Script", "length", "I", false)
  | 3 => ("PageRotas$Script", "verb", "I", false)
  | 4 => ("PageRotas$Script", "commands", "I", false)
  | 5 => ("PageRotas$Script", "faultAt", "I", false)
  | _ => ("PageRotas$Script", "faultReason", "I", false)
def tyX6 : Nat → FieldType := fun k => match k with
  | 0 => .array .char
  | 1 => .array .int
  | 2 => .int
  | 3 => .int
  | 4 => .int
  | 5 => .int
  | _ => .int
abbrev wsX60 : List Cond := u_ws RX6 TX6 7
theorem nmX6 : ∀ a, a < 7 → ∀ b, b < 7 → a ≠ b → (TX6 a).2.1 ≠ (TX6 b).2.1 := by decide +kernel
theorem tyX6_ok : ∀ k, k < 7 → parseFieldDescriptor (TX6 k).2.2.1 = some (tyX6 k) := by decide +kernel
abbrev cX6_init : ByteArray := prog_8_method_1_code
def yX6_init : MethodName := ⟨RX6, "<init>", "()V"⟩
abbrev cX6_append : ByteArray := prog_8_method_2_code
def yX6_append : MethodName := ⟨RX6, "append", "(C)I"⟩
abbrev cX6_perform : ByteArray := prog_8_method_3_code
def yX6_perform : MethodName := ⟨RX6, "perform", "(LPageRotas$House;)V"⟩
abbrev cX6_reasonOf : ByteArray := prog_8_method_4_code
def yX6_reasonOf : MethodName := ⟨RX6, "reasonOf", "(I)I"⟩
abbrev cX6_obey : ByteArray := prog_8_method_5_code
def yX6_obey : MethodName := ⟨RX6, "obey", "(LPageRotas$House;)I"⟩
abbrev cX6_readCommand : ByteArray := prog_8_method_6_code
def yX6_readCommand : MethodName := ⟨RX6, "readCommand", "(I)I"⟩
abbrev cX6_readNumber : ByteArray := prog_8_method_7_code
def yX6_readNumber : MethodName := ⟨RX6, "readNumber", "(IIC)I"⟩
abbrev cX6_signAt : ByteArray := prog_8_method_8_code
def yX6_signAt : MethodName := ⟨RX6, "signAt", "(I)C"⟩
abbrev cX6_isDigit : ByteArray := prog_8_method_9_code
def yX6_isDigit : MethodName := ⟨RX6, "isDigit", "(C)Z"⟩
abbrev cX6_numbersAfter : ByteArray := prog_8_method_10_code
def yX6_numbersAfter : MethodName := ⟨RX6, "numbersAfter", "(I)I"⟩
def RX7 : String := "PageRotas$Span"
def TX7 : u_T := fun k => match k with
  | 0 => ("PageRotas$Span", "from", "I", false)
  | _ => ("PageRotas$Span", "to", "I", false)
def tyX7 : Nat → FieldType := fun k => match k with
  | 0 => .int
  | _ => .int
abbrev wsX70 : List Cond := u_ws RX7 TX7 2
theorem nmX7 : ∀ a, a < 2 → ∀ b, b < 2 → a ≠ b → (TX7 a).2.1 ≠ (TX7 b).2.1 := by decide +kernel
theorem tyX7_ok : ∀ k, k < 2 → parseFieldDescriptor (TX7 k).2.2.1 = some (tyX7 k) := by decide +kernel
abbrev cX7_init : ByteArray := prog_9_method_1_code
def yX7_init : MethodName := ⟨RX7, "<init>", "()V"⟩
abbrev cX7_put : ByteArray := prog_9_method_2_code
def yX7_put : MethodName := ⟨RX7, "put", "(II)V"⟩
abbrev cX7_has : ByteArray := prog_9_method_3_code
def yX7_has : MethodName := ⟨RX7, "has", "(I)Z"⟩
abbrev cX7_hours : ByteArray := prog_9_method_4_code
def yX7_hours : MethodName := ⟨RX7, "hours", "()I"⟩
abbrev cX7_isHour : ByteArray := prog_9_method_5_code
def yX7_isHour : MethodName := ⟨RX7, "isHour", "(I)Z"⟩
def RX8 : String := "PageRotas$StandIn"
def TX8 : u_T := fun k => match k with
  | 0 => ("PageRotas$StandIn", "region", "I", false)
  | 1 => ("PageRotas$StandIn", "person", "I", false)
  | _ => ("PageRotas$StandIn", "end", "I", false)
def tyX8 : Nat → FieldType := fun k => match k with
  | 0 => .int
  | 1 => .int
  | _ => .int
abbrev wsX80 : List Cond := u_ws RX8 TX8 3
theorem nmX8 : ∀ a, a < 3 → ∀ b, b < 3 → a ≠ b → (TX8 a).2.1 ≠ (TX8 b).2.1 := by decide +kernel
theorem tyX8_ok : ∀ k, k < 3 → parseFieldDescriptor (TX8 k).2.2.1 = some (tyX8 k) := by decide +kernel
abbrev cX8_init : ByteArray := prog_10_method_1_code
def yX8_init : MethodName := ⟨RX8, "<init>", "()V"⟩
abbrev cX8_copyFrom : ByteArray := prog_10_method_2_code
def yX8_copyFrom : MethodName := ⟨RX8, "copyFrom", "(LPageRotas$StandIn;)V"⟩
abbrev cX8_isInForce : ByteArray := prog_10_method_3_code
def yX8_isInForce : MethodName := ⟨RX8, "isInForce", "(I)Z"⟩
def RX9 : String := "PageRotas$Totals"
def TX9 : u_T := fun k => match k with
  | 0 => ("PageRotas$Totals", "alerts", "I", false)
  | 1 => ("PageRotas$Totals", "folded", "I", false)
  | 2 => ("PageRotas$Totals", "pages", "I", false)
  | 3 => ("PageRotas$Totals", "resolved", "I", false)
  | 4 => ("PageRotas$Totals", "handOffs", "I", false)
  | 5 => ("PageRotas$Totals", "escalations", "I", false)
  | 6 => ("PageRotas$Totals", "unowned", "I", false)
  | 7 => ("PageRotas$Totals", "open", "I", false)
  | 8 => ("PageRotas$Totals", "acknowledgements", "I", false)
  | _ => ("PageRotas$Totals", "minutesToAcknowledge", "I", false)
def tyX9 : Nat → FieldType := fun k => match k with
  | 0 => .int
  | 1 => .int
  | 2 => .int
  | 3 => .int
  | 4 => .int
  | 5 => .int
  | 6 => .int
  | 7 => .int
  | 8 => .int
  | _ => .int
abbrev wsX90 : List Cond := u_ws RX9 TX9 10
theorem nmX9 : ∀ a, a < 10 → ∀ b, b < 10 → a ≠ b → (TX9 a).2.1 ≠ (TX9 b).2.1 := by decide +kernel
theorem tyX9_ok : ∀ k, k < 10 → parseFieldDescriptor (TX9 k).2.2.1 = some (tyX9 k) := by decide +kernel
abbrev cX9_init : ByteArray := prog_11_method_1_code
def yX9_init : MethodName := ⟨RX9, "<init>", "()V"⟩
abbrev cX9_copyFrom : ByteArray := prog_11_method_2_code
def yX9_copyFrom : MethodName := ⟨RX9, "copyFrom", "(LPageRotas$Totals;)V"⟩
abbrev cX9_numbered : ByteArray := prog_11_method_3_code
def yX9_numbered : MethodName := ⟨RX9, "numbered", "(I)I"⟩
def RX10 : String := "PageRotas"
def TX10 : u_T := fun k => match k with
  | 0 => ("PageRotas", "house", "LPageRotas$House;", true)
  | 1 => ("PageRotas", "trial", "LPageRotas$House;", true)
  | 2 => ("PageRotas", "history", "LPageRotas$History;", true)
  | _ => ("PageRotas", "script", "LPageRotas$Script;", true)
def tyX10 : Nat → FieldType := fun k => match k with
  | 0 => .object "PageRotas$House"
  | 1 => .object "PageRotas$House"
  | 2 => .object "PageRotas$History"
  | _ => .object "PageRotas$Script"
abbrev wsX100 : List Cond := u_ws RX10 TX10 4
theorem nmX10 : ∀ a, a < 4 → ∀ b, b < 4 → a ≠ b → (TX10 a).2.1 ≠ (TX10 b).2.1 := by decide +kernel
theorem tyX10_ok : ∀ k, k < 4 → parseFieldDescriptor (TX10 k).2.2.1 = some (tyX10 k) := by decide +kernel
abbrev cX10_init : ByteArray := prog_1_method_1_code
def yX10_init : MethodName := ⟨RX10, "<init>", "()V"⟩
abbrev cX10_person : ByteArray := prog_1_method_2_code
def yX10_person : MethodName := ⟨RX10, "person", "()I"⟩
abbrev cX10_region : ByteArray := prog_1_method_3_code
def yX10_region : MethodName := ⟨RX10, "region", "(III)I"⟩
abbrev cX10_join : ByteArray := prog_1_method_4_code
def yX10_join : MethodName := ⟨RX10, "join", "(II)I"⟩
abbrev cX10_leave : ByteArray := prog_1_method_5_code
def yX10_leave : MethodName := ⟨RX10, "leave", "(II)I"⟩
abbrev cX10_quiet : ByteArray := prog_1_method_6_code
def yX10_quiet : MethodName := ⟨RX10, "quiet", "(III)I"⟩
abbrev cX10_except : ByteArray := prog_1_method_7_code
def yX10_except : MethodName := ⟨RX10, "except", "(II)I"⟩
abbrev cX10_override : ByteArray := prog_1_method_8_code
def yX10_override : MethodName := ⟨RX10, "override", "(III)I"⟩
abbrev cX10_rotaAt : ByteArray := prog_1_method_9_code
def yX10_rotaAt : MethodName := ⟨RX10, "rotaAt", "(II)I"⟩
abbrev cX10_personOf : ByteArray := prog_1_method_10_code
def yX10_personOf : MethodName := ⟨RX10, "personOf", "(II)I"⟩
abbrev cX10_alert : ByteArray := prog_1_method_11_code
def yX10_alert : MethodName := ⟨RX10, "alert", "(II)I"⟩
abbrev cX10_acknowledge : ByteArray := prog_1_method_12_code
def yX10_acknowledge : MethodName := ⟨RX10, "acknowledge", "(I)I"⟩
abbrev cX10_resolve : ByteArray := prog_1_method_13_code
def yX10_resolve : MethodName := ⟨RX10, "resolve", "(I)I"⟩
abbrev cX10_pass : ByteArray := prog_1_method_14_code
def yX10_pass : MethodName := ⟨RX10, "pass", "(I)I"⟩
abbrev cX10_set : ByteArray := prog_1_method_15_code
def yX10_set : MethodName := ⟨RX10, "set", "(II)I"⟩
abbrev cX10_incidentOf : ByteArray := prog_1_method_16_code
def yX10_incidentOf : MethodName := ⟨RX10, "incidentOf", "(II)I"⟩
abbrev cX10_count : ByteArray := prog_1_method_17_code
def yX10_count : MethodName := ⟨RX10, "count", "(I)I"⟩
abbrev cX10_onCall : ByteArray := prog_1_method_18_code
def yX10_onCall : MethodName := ⟨RX10, "onCall", "(II)I"⟩
abbrev cX10_uncovered : ByteArray := prog_1_method_19_code
def yX10_uncovered : MethodName := ⟨RX10, "uncovered", "()I"⟩
abbrev cX10_later : ByteArray := prog_1_method_20_code
def yX10_later : MethodName := ⟨RX10, "later", "(III)I"⟩
abbrev cX10_acknowledgeBits : ByteArray := prog_1_method_21_code
def yX10_acknowledgeBits : MethodName := ⟨RX10, "acknowledgeBits", "()I"⟩
abbrev cX10_unownedBits : ByteArray := prog_1_method_22_code
def yX10_unownedBits : MethodName := ⟨RX10, "unownedBits", "()I"⟩
abbrev cX10_undo : ByteArray := prog_1_method_23_code
def yX10_undo : MethodName := ⟨RX10, "undo", "()I"⟩
abbrev cX10_type : ByteArray := prog_1_method_24_code
def yX10_type : MethodName := ⟨RX10, "type", "(I)I"⟩
abbrev cX10_clearText : ByteArray := prog_1_method_25_code
def yX10_clearText : MethodName := ⟨RX10, "clearText", "()I"⟩
abbrev cX10_fault : ByteArray := prog_1_method_26_code
def yX10_fault : MethodName := ⟨RX10, "fault", "(I)I"⟩
abbrev cX10_play : ByteArray := prog_1_method_27_code
def yX10_play : MethodName := ⟨RX10, "play", "()I"⟩
abbrev cX10_settled : ByteArray := prog_1_method_28_code
def yX10_settled : MethodName := ⟨RX10, "settled", "(I)I"⟩
abbrev cX10_hourOfDay : ByteArray := prog_1_method_29_code
def yX10_hourOfDay : MethodName := ⟨RX10, "hourOfDay", "(I)I"⟩
abbrev cX10_bitsOf : ByteArray := prog_1_method_30_code
def yX10_bitsOf : MethodName := ⟨RX10, "bitsOf", "(F)I"⟩
def RX11 : String := "PageRotasModel"
def TX11 : u_T := fun k => match k with
  | 0 => ("PageRotasModel", "s", "[I", true)
  | 1 => ("PageRotasModel", "begun", "[I", true)
  | 2 => ("PageRotasModel", "aside", "[I", true)
  | 3 => ("PageRotasModel", "past", "[I", true)
  | 4 => ("PageRotasModel", "states", "I", false)
  | 5 => ("PageRotasModel", "text", "[I", true)
  | 6 => ("PageRotasModel", "length", "I", false)
  | 7 => ("PageRotasModel", "at", "I", false)
  | 8 => ("PageRotasModel", "isForm", "Z", false)
  | 9 => ("PageRotasModel", "reason", "I", false)
  | _ => ("PageRotasModel", "numbers", "[I", true)
def tyX11 : Nat → FieldType := fun k => match k with
  | 0 => .array .int
  | 1 => .array .int
  | 2 => .array .int
  | 3 => .array .int
  | 4 => .int
  | 5 => .array .int
  | 6 => .int
  | 7 => .int
  | 8 => .boolean
  | 9 => .int
  | _ => .array .int
abbrev wsX110 : List Cond := u_ws RX11 TX11 11
theorem nmX11 : ∀ a, a < 11 → ∀ b, b < 11 → a ≠ b → (TX11 a).2.1 ≠ (TX11 b).2.1 := by decide +kernel
theorem tyX11_ok : ∀ k, k < 11 → parseFieldDescriptor (TX11 k).2.2.1 = some (tyX11 k) := by decide +kernel
abbrev cX11_init : ByteArray := prog_13_method_1_code
def yX11_init : MethodName := ⟨RX11, "<init>", "()V"⟩
abbrev cX11_in : ByteArray := prog_13_method_3_code
def yX11_in : MethodName := ⟨RX11, "in", "(III)Z"⟩
abbrev cX11_begins : ByteArray := prog_13_method_4_code
def yX11_begins : MethodName := ⟨RX11, "begins", "()V"⟩
abbrev cX11_returns : ByteArray := prog_13_method_5_code
def yX11_returns : MethodName := ⟨RX11, "returns", "()V"⟩
abbrev cX11_acted : ByteArray := prog_13_method_6_code
def yX11_acted : MethodName := ⟨RX11, "acted", "(I)I"⟩
abbrev cX11_isPerson : ByteArray := prog_13_method_7_code
def yX11_isPerson : MethodName := ⟨RX11, "isPerson", "(I)Z"⟩
abbrev cX11_isRegion : ByteArray := prog_13_method_8_code
def yX11_isRegion : MethodName := ⟨RX11, "isRegion", "(I)Z"⟩
abbrev cX11_incidentAt : ByteArray := prog_13_method_9_code
def yX11_incidentAt : MethodName := ⟨RX11, "incidentAt", "(I)I"⟩
abbrev cX11_isIncident : ByteArray := prog_13_method_10_code
def yX11_isIncident : MethodName := ⟨RX11, "isIncident", "(I)Z"⟩
abbrev cX11_ofWho : ByteArray := prog_13_method_11_code
def yX11_ofWho : MethodName := ⟨RX11, "ofWho", "(II)I"⟩
abbrev cX11_ofWhere : ByteArray := prog_13_method_12_code
def yX11_ofWhere : MethodName := ⟨RX11, "ofWhere", "(II)I"⟩
abbrev cX11_isWithin : ByteArray := prog_13_method_13_code
def yX11_isWithin : MethodName := ⟨RX11, "isWithin", "(III)Z"⟩
abbrev cX11_covers : ByteArray := prog_13_method_14_code
def yX11_covers : MethodName := ⟨RX11, "covers", "(II)Z"⟩
abbrev cX11_regionAt : ByteArray := prog_13_method_15_code
def yX11_regionAt : MethodName := ⟨RX11, "regionAt", "(I)I"⟩
abbrev cX11_personAt : ByteArray := prog_13_method_16_code
def yX11_personAt : MethodName := ⟨RX11, "personAt", "(II)I"⟩
abbrev cX11_isQuiet : ByteArray := prog_13_method_17_code
def yX11_isQuiet : MethodName := ⟨RX11, "isQuiet", "(II)Z"⟩
abbrev cX11_isException : ByteArray := prog_13_method_18_code
def yX11_isException : MethodName := ⟨RX11, "isException", "(II)Z"⟩
abbrev cX11_pages : ByteArray := prog_13_method_19_code
def yX11_pages : MethodName := ⟨RX11, "pages", "(I)V"⟩
abbrev cX11_minuteOf : ByteArray := prog_13_method_20_code
def yX11_minuteOf : MethodName := ⟨RX11, "minuteOf", "(I)V"⟩
abbrev cX11_minute : ByteArray := prog_13_method_21_code
def yX11_minute : MethodName := ⟨RX11, "minute", "()V"⟩
abbrev cX11_comes : ByteArray := prog_13_method_22_code
def yX11_comes : MethodName := ⟨RX11, "comes", "()I"⟩
abbrev cX11_lies : ByteArray := prog_13_method_23_code
def yX11_lies : MethodName := ⟨RX11, "lies", "(III)I"⟩
abbrev cX11_placeIn : ByteArray := prog_13_method_24_code
def yX11_placeIn : MethodName := ⟨RX11, "placeIn", "(II)I"⟩
abbrev cX11_joins : ByteArray := prog_13_method_25_code
def yX11_joins : MethodName := ⟨RX11, "joins", "(II)I"⟩
abbrev cX11_leaves : ByteArray := prog_13_method_26_code
def yX11_leaves : MethodName := ⟨RX11, "leaves", "(II)I"⟩
abbrev cX11_rests : ByteArray := prog_13_method_27_code
def yX11_rests : MethodName := ⟨RX11, "rests", "(III)I"⟩
abbrev cX11_ones : ByteArray := prog_13_method_28_code
def yX11_ones : MethodName := ⟨RX11, "ones", "(I)I"⟩
abbrev cX11_excepts : ByteArray := prog_13_method_29_code
def yX11_excepts : MethodName := ⟨RX11, "excepts", "(II)I"⟩
abbrev cX11_inForce : ByteArray := prog_13_method_30_code
def yX11_inForce : MethodName := ⟨RX11, "inForce", "()I"⟩
abbrev cX11_clears : ByteArray := prog_13_method_31_code
def yX11_clears : MethodName := ⟨RX11, "clears", "()V"⟩
abbrev cX11_overrides : ByteArray := prog_13_method_32_code
def yX11_overrides : MethodName := ⟨RX11, "overrides", "(III)I"⟩
abbrev cX11_foldsInto : ByteArray := prog_13_method_33_code
def yX11_foldsInto : MethodName := ⟨RX11, "foldsInto", "(I)I"⟩
abbrev cX11_lowestFree : ByteArray := prog_13_method_34_code
def yX11_lowestFree : MethodName := ⟨RX11, "lowestFree", "()I"⟩
abbrev cX11_opens : ByteArray := prog_13_method_35_code
def yX11_opens : MethodName := ⟨RX11, "opens", "(II)I"⟩
abbrev cX11_alerts : ByteArray := prog_13_method_36_code
def yX11_alerts : MethodName := ⟨RX11, "alerts", "(II)I"⟩
abbrev cX11_acknowledges : ByteArray := prog_13_method_37_code
def yX11_acknowledges : MethodName := ⟨RX11, "acknowledges", "(I)I"⟩
abbrev cX11_resolves : ByteArray := prog_13_method_38_code
def yX11_resolves : MethodName := ⟨RX11, "resolves", "(I)I"⟩
abbrev cX11_passes : ByteArray := prog_13_method_39_code
def yX11_passes : MethodName := ⟨RX11, "passes", "(I)I"⟩
abbrev cX11_sets : ByteArray := prog_13_method_40_code
def yX11_sets : MethodName := ⟨RX11, "sets", "(II)I"⟩
abbrev cX11_person : ByteArray := prog_13_method_41_code
def yX11_person : MethodName := ⟨RX11, "person", "()I"⟩
abbrev cX11_region : ByteArray := prog_13_method_42_code
def yX11_region : MethodName := ⟨RX11, "region", "(III)I"⟩
abbrev cX11_join : ByteArray := prog_13_method_43_code
def yX11_join : MethodName := ⟨RX11, "join", "(II)I"⟩
abbrev cX11_leave : ByteArray := prog_13_method_44_code
def yX11_leave : MethodName := ⟨RX11, "leave", "(II)I"⟩
abbrev cX11_quiet : ByteArray := prog_13_method_45_code
def yX11_quiet : MethodName := ⟨RX11, "quiet", "(III)I"⟩
abbrev cX11_except : ByteArray := prog_13_method_46_code
def yX11_except : MethodName := ⟨RX11, "except", "(II)I"⟩
abbrev cX11_override : ByteArray := prog_13_method_47_code
def yX11_override : MethodName := ⟨RX11, "override", "(III)I"⟩
abbrev cX11_alert : ByteArray := prog_13_method_48_code
def yX11_alert : MethodName := ⟨RX11, "alert", "(II)I"⟩
abbrev cX11_acknowledge : ByteArray := prog_13_method_49_code
def yX11_acknowledge : MethodName := ⟨RX11, "acknowledge", "(I)I"⟩
abbrev cX11_resolve : ByteArray := prog_13_method_50_code
def yX11_resolve : MethodName := ⟨RX11, "resolve", "(I)I"⟩
abbrev cX11_pass : ByteArray := prog_13_method_51_code
def yX11_pass : MethodName := ⟨RX11, "pass", "(I)I"⟩
abbrev cX11_set : ByteArray := prog_13_method_52_code
def yX11_set : MethodName := ⟨RX11, "set", "(II)I"⟩
abbrev cX11_rotaAt : ByteArray := prog_13_method_53_code
def yX11_rotaAt : MethodName := ⟨RX11, "rotaAt", "(II)I"⟩
abbrev cX11_ownedBy : ByteArray := prog_13_method_54_code
def yX11_ownedBy : MethodName := ⟨RX11, "ownedBy", "(IZ)I"⟩
abbrev cX11_rotasOf : ByteArray := prog_13_method_55_code
def yX11_rotasOf : MethodName := ⟨RX11, "rotasOf", "(I)I"⟩
abbrev cX11_personOf : ByteArray := prog_13_method_56_code
def yX11_personOf : MethodName := ⟨RX11, "personOf", "(II)I"⟩
abbrev cX11_incidentOf : ByteArray := prog_13_method_57_code
def yX11_incidentOf : MethodName := ⟨RX11, "incidentOf", "(II)I"⟩
abbrev cX11_openOnes : ByteArray := prog_13_method_58_code
def yX11_openOnes : MethodName := ⟨RX11, "openOnes", "(I)I"⟩
abbrev cX11_count : ByteArray := prog_13_method_59_code
def yX11_count : MethodName := ⟨RX11, "count", "(I)I"⟩
abbrev cX11_onCall : ByteArray := prog_13_method_60_code
def yX11_onCall : MethodName := ⟨RX11, "onCall", "(II)I"⟩
abbrev cX11_uncovered : ByteArray := prog_13_method_61_code
def yX11_uncovered : MethodName := ⟨RX11, "uncovered", "()I"⟩
abbrev cX11_later : ByteArray := prog_13_method_62_code
def yX11_later : MethodName := ⟨RX11, "later", "(III)I"⟩
abbrev cX11_acknowledgeBits : ByteArray := prog_13_method_63_code
def yX11_acknowledgeBits : MethodName := ⟨RX11, "acknowledgeBits", "()I"⟩
abbrev cX11_unownedBits : ByteArray := prog_13_method_64_code
def yX11_unownedBits : MethodName := ⟨RX11, "unownedBits", "()I"⟩
abbrev cX11_undo : ByteArray := prog_13_method_65_code
def yX11_undo : MethodName := ⟨RX11, "undo", "()I"⟩
abbrev cX11_type : ByteArray := prog_13_method_66_code
def yX11_type : MethodName := ⟨RX11, "type", "(I)I"⟩
abbrev cX11_clearText : ByteArray := prog_13_method_67_code
def yX11_clearText : MethodName := ⟨RX11, "clearText", "()I"⟩
abbrev cX11_here : ByteArray := prog_13_method_68_code
def yX11_here : MethodName := ⟨RX11, "here", "()I"⟩
abbrev cX11_must : ByteArray := prog_13_method_69_code
def yX11_must : MethodName := ⟨RX11, "must", "(I)V"⟩
abbrev cX11_readNumber : ByteArray := prog_13_method_70_code
def yX11_readNumber : MethodName := ⟨RX11, "readNumber", "(I)I"⟩
abbrev cX11_command : ByteArray := prog_13_method_71_code
def yX11_command : MethodName := ⟨RX11, "command", "()I"⟩
abbrev cX11_does : ByteArray := prog_13_method_72_code
def yX11_does : MethodName := ⟨RX11, "does", "()I"⟩
abbrev cX11_fault : ByteArray := prog_13_method_73_code
def yX11_fault : MethodName := ⟨RX11, "fault", "(I)I"⟩
abbrev cX11_play : ByteArray := prog_13_method_74_code
def yX11_play : MethodName := ⟨RX11, "play", "()I"⟩
def RJxf58ca : String := "java/lang/Float"
def TJxf58ca : u_T := fun k => match k with
  | _ => ("", "", "", false)
def tyJxf58ca : Nat → FieldType := fun k => match k with
  | _ => .int
abbrev wsJxf58ca0 : List Cond := u_ws RJxf58ca TJxf58ca 0
theorem nmJxf58ca : ∀ a, a < 0 → ∀ b, b < 0 → a ≠ b → (TJxf58ca a).2.1 ≠ (TJxf58ca b).2.1 := by decide +kernel
theorem tyJxf58ca_ok : ∀ k, k < 0 → parseFieldDescriptor (TJxf58ca k).2.2.1 = some (tyJxf58ca k) := by decide +kernel
abbrev cJxf58ca_isNaN_12338 : ByteArray := prog_14_method_6_code
def yJxf58ca_isNaN_12338 : MethodName := ⟨RJxf58ca, "isNaN", "(F)Z"⟩
abbrev cJxf58ca_floatToIntBits_5c35a : ByteArray := prog_14_method_24_code
def yJxf58ca_floatToIntBits_5c35a : MethodName := ⟨RJxf58ca, "floatToIntBits", "(F)I"⟩
def RJ6 : String := "java/lang/Integer"
def TJ6 : u_T := fun k => match k with
  | _ => ("", "", "", false)
def tyJ6 : Nat → FieldType := fun k => match k with
  | _ => .int
abbrev wsJ60 : List Cond := u_ws RJ6 TJ6 0
theorem nmJ6 : ∀ a, a < 0 → ∀ b, b < 0 → a ≠ b → (TJ6 a).2.1 ≠ (TJ6 b).2.1 := by decide +kernel
theorem tyJ6_ok : ∀ k, k < 0 → parseFieldDescriptor (TJ6 k).2.2.1 = some (tyJ6 k) := by decide +kernel
abbrev cJ6_bitCount_0f7a4 : ByteArray := prog_15_method_49_code
def yJ6_bitCount_0f7a4 : MethodName := ⟨RJ6, "bitCount", "(I)I"⟩
def RJ9 : String := "java/lang/Math"
def TJ9 : u_T := fun k => match k with
  | _ => ("", "", "", false)
def tyJ9 : Nat → FieldType := fun k => match k with
  | _ => .int
abbrev wsJ90 : List Cond := u_ws RJ9 TJ9 0
theorem nmJ9 : ∀ a, a < 0 → ∀ b, b < 0 → a ≠ b → (TJ9 a).2.1 ≠ (TJ9 b).2.1 := by decide +kernel
theorem tyJ9_ok : ∀ k, k < 0 → parseFieldDescriptor (TJ9 k).2.2.1 = some (tyJ9 k) := by decide +kernel
abbrev cJ9_min_7cf53 : ByteArray := prog_16_method_69_code
def yJ9_min_7cf53 : MethodName := ⟨RJ9, "min", "(II)I"⟩
def RJ10 : String := "java/lang/System"
def TJ10 : u_T := fun k => match k with
  | _ => ("", "", "", false)
def tyJ10 : Nat → FieldType := fun k => match k with
  | _ => .int
abbrev wsJ100 : List Cond := u_ws RJ10 TJ10 0
theorem nmJ10 : ∀ a, a < 0 → ∀ b, b < 0 → a ≠ b → (TJ10 a).2.1 ≠ (TJ10 b).2.1 := by decide +kernel
theorem tyJ10_ok : ∀ k, k < 0 → parseFieldDescriptor (TJ10 k).2.2.1 = some (tyJ10 k) := by decide +kernel
def RL : String := "PageRotasLaw"
abbrev cL_law : ByteArray := code
def yL_law : MethodName := ⟨RL, "law", "([I)Z"⟩
def wsL_law_r1 : List Cond := [Cond.classLink RL 7 RX10, Cond.instantiable RX10 4, Cond.initialized RX10, Cond.classLink RL 10 RX11, Cond.instantiable RX11 11, Cond.initialized RX11, Cond.methodLink RL 9 yX10_init, Cond.instanceMethod yX10_init, Cond.code yX10_init cX10_init 1 none, Cond.methodLink RX10 1 objectInit, Cond.instanceMethod objectInit, Cond.code objectInit ⟨#[0xb1]⟩ 1 none, Cond.classLink RX10 7 RX1, Cond.instantiable RX1 6, Cond.initialized RX1, Cond.fieldLink RX10 10 "PageRotas" "house" "LPageRotas$House;", Cond.fieldLink RX10 16 "PageRotas" "trial" "LPageRotas$House;", Cond.classLink RX10 19 RX0, Cond.instantiable RX0 2, Cond.initialized RX0, Cond.fieldLink RX10 22 "PageRotas" "history" "LPageRotas$History;", Cond.classLink RX10 26 RX6, Cond.instantiable RX6 7, Cond.initialized RX6]
def wsL_law_r2 : List Cond := [Cond.fieldLink RX10 29 "PageRotas" "script" "LPageRotas$Script;", Cond.methodLink RX10 9 yX1_init, Cond.instanceMethod yX1_init, Cond.code yX1_init cX1_init 2 none, Cond.methodLink RX1 3 objectInit, Cond.classLink RX1 9 RX5, Cond.instantiable RX5 6, Cond.initialized RX5, Cond.fieldLink RX1 12 "PageRotas$House" "rotas" "LPageRotas$Rotas;", Cond.classLink RX1 18 RX2, Cond.fieldLink RX1 20 "PageRotas$House" "incidents" "[LPageRotas$Incident;", Cond.classLink RX1 24 RX9, Cond.instantiable RX9 10, Cond.initialized RX9, Cond.fieldLink RX1 27 "PageRotas$House" "totals" "LPageRotas$Totals;", Cond.fieldLink RX1 31 "PageRotas$House" "escalateAfter" "I", Cond.fieldLink RX1 35 "PageRotas$House" "foldWithin" "I", Cond.instantiable RX2 14, Cond.initialized RX2, Cond.methodLink RX1 11 yX5_init, Cond.instanceMethod yX5_init, Cond.code yX5_init cX5_init 2 none, Cond.methodLink RX5 3 objectInit, Cond.classLink RX5 9 RX3]
def wsL_law_r3 : List Cond := [Cond.fieldLink RX5 11 "PageRotas$Rotas" "people" "[LPageRotas$Person;", Cond.classLink RX5 17 RX4, Cond.fieldLink RX5 19 "PageRotas$Rotas" "regions" "[LPageRotas$Region;", Cond.classLink RX5 23 RX8, Cond.fieldLink RX5 25 "PageRotas$Rotas" "standIns" "[LPageRotas$StandIn;", Cond.instantiable RX3 4, Cond.initialized RX3, Cond.instantiable RX4 4, Cond.initialized RX4, Cond.instantiable RX8 3, Cond.initialized RX8, Cond.instanceMethod yX3_init, Cond.code yX3_init cX3_init 1 none, Cond.methodLink RX3 1 objectInit, Cond.classLink RX3 7 RX7, Cond.instantiable RX7 2, Cond.initialized RX7, Cond.fieldLink RX3 10 "PageRotas$Person" "quiet" "LPageRotas$Span;", Cond.instanceMethod yX7_init, Cond.code yX7_init cX7_init 1 none, Cond.methodLink RX7 3 objectInit, Cond.instanceMethod yX4_init, Cond.code yX4_init cX4_init 1 none, Cond.methodLink RX4 3 objectInit]
def wsL_law_r4 : List Cond := [Cond.classLink RX4 9 RX7, Cond.fieldLink RX4 12 "PageRotas$Region" "hours" "LPageRotas$Span;", Cond.arrayClass .int, Cond.fieldLink RX4 18 "PageRotas$Region" "rota" "[I", Cond.instanceMethod yX8_init, Cond.code yX8_init cX8_init 1 none, Cond.methodLink RX8 1 objectInit, Cond.instanceMethod yX9_init, Cond.code yX9_init cX9_init 1 none, Cond.methodLink RX9 3 objectInit, Cond.instanceMethod yX2_init, Cond.code yX2_init cX2_init 1 none, Cond.methodLink RX2 3 objectInit, Cond.methodLink RX10 21 yX0_init, Cond.instanceMethod yX0_init, Cond.code yX0_init cX0_init 2 none, Cond.methodLink RX0 3 objectInit, Cond.classLink RX0 9 RX1, Cond.fieldLink RX0 11 "PageRotas$History" "states" "[LPageRotas$House;", Cond.methodLink RX0 17 yX1_init, Cond.instanceMethod yX6_init, Cond.code yX6_init cX6_init 1 none, Cond.methodLink RX6 3 objectInit, Cond.arrayClass .char]
def wsL_law_r5 : List Cond := [Cond.fieldLink RX6 9 "PageRotas$Script" "signs" "[C", Cond.fieldLink RX6 15 "PageRotas$Script" "numbers" "[I", Cond.fieldLink RX6 19 "PageRotas$Script" "faultReason" "I", Cond.methodLink RL 12 yX11_init, Cond.instanceMethod yX11_init, Cond.code yX11_init cX11_init 1 none, Cond.methodLink RX11 1 objectInit, Cond.fieldLink RX11 7 "PageRotasModel" "s" "[I", Cond.fieldLink RX11 13 "PageRotasModel" "begun" "[I", Cond.fieldLink RX11 16 "PageRotasModel" "aside" "[I", Cond.fieldLink RX11 19 "PageRotasModel" "past" "[I", Cond.fieldLink RX11 22 "PageRotasModel" "text" "[I", Cond.fieldLink RX11 25 "PageRotasModel" "numbers" "[I", Cond.methodLink RL 13 yX10_person, Cond.instanceMethod yX10_person, Cond.selects RX10 yX10_person yX10_person, Cond.code yX10_person cX10_person 1 (some .int), Cond.fieldLink RX10 37 "PageRotas$House" "rotas" "LPageRotas$Rotas;", Cond.methodLink RX10 33 yX0_prepare, Cond.instanceMethod yX0_prepare, Cond.selects RX0 yX0_prepare yX0_prepare, Cond.code yX0_prepare cX0_prepare 2 none, Cond.fieldLink RX0 18 "PageRotas$History" "size" "I", Cond.methodLink RX0 22 yX1_copyFrom]
def wsL_law_r6 : List Cond := [Cond.instanceMethod yX1_copyFrom, Cond.selects RX1 yX1_copyFrom yX1_copyFrom, Cond.code yX1_copyFrom cX1_copyFrom 3 none, Cond.fieldLink RX1 49 "PageRotas$House" "time" "I", Cond.methodLink RX1 39 yX5_copyFrom, Cond.instanceMethod yX5_copyFrom, Cond.selects RX5 yX5_copyFrom yX5_copyFrom, Cond.code yX5_copyFrom cX5_copyFrom 3 none, Cond.fieldLink RX5 42 "PageRotas$Rotas" "peopleCount" "I", Cond.fieldLink RX5 46 "PageRotas$Rotas" "regionCount" "I", Cond.fieldLink RX5 49 "PageRotas$Rotas" "standInCount" "I", Cond.methodLink RX5 32 yX3_copyFrom, Cond.instanceMethod yX3_copyFrom, Cond.selects RX3 yX3_copyFrom yX3_copyFrom, Cond.code yX3_copyFrom cX3_copyFrom 2 none, Cond.fieldLink RX3 16 "PageRotas$Span" "from" "I", Cond.fieldLink RX3 20 "PageRotas$Span" "to" "I", Cond.fieldLink RX3 27 "PageRotas$Person" "exceptions" "I", Cond.fieldLink RX3 30 "PageRotas$Person" "pages" "I", Cond.fieldLink RX3 33 "PageRotas$Person" "resolved" "I", Cond.methodLink RX3 23 yX7_put, Cond.instanceMethod yX7_put, Cond.selects RX7 yX7_put yX7_put, Cond.code yX7_put cX7_put 3 none]
def wsL_law_r7 : List Cond := [Cond.fieldLink RX7 9 "PageRotas$Span" "from" "I", Cond.fieldLink RX7 15 "PageRotas$Span" "to" "I", Cond.methodLink RX5 36 yX4_copyFrom, Cond.instanceMethod yX4_copyFrom, Cond.selects RX4 yX4_copyFrom yX4_copyFrom, Cond.code yX4_copyFrom cX4_copyFrom 2 none, Cond.fieldLink RX4 22 "PageRotas$Span" "from" "I", Cond.fieldLink RX4 26 "PageRotas$Span" "to" "I", Cond.methodLink RX4 33 arraycopyName, Cond.native arraycopyName, Cond.static arraycopyName, Cond.initialized "java/lang/System", Cond.fieldLink RX4 39 "PageRotas$Region" "shift" "I", Cond.fieldLink RX4 42 "PageRotas$Region" "size" "I", Cond.methodLink RX4 29 yX7_put, Cond.methodLink RX5 39 yX8_copyFrom, Cond.instanceMethod yX8_copyFrom, Cond.selects RX8 yX8_copyFrom yX8_copyFrom, Cond.code yX8_copyFrom cX8_copyFrom 2 none, Cond.fieldLink RX8 7 "PageRotas$StandIn" "region" "I", Cond.fieldLink RX8 13 "PageRotas$StandIn" "person" "I", Cond.fieldLink RX8 16 "PageRotas$StandIn" "end" "I", Cond.methodLink RX1 43 yX2_copyFrom, Cond.instanceMethod yX2_copyFrom]
def wsL_law_r8 : List Cond := [Cond.selects RX2 yX2_copyFrom yX2_copyFrom, Cond.code yX2_copyFrom cX2_copyFrom 2 none, Cond.fieldLink RX2 9 "PageRotas$Incident" "open" "Z", Cond.fieldLink RX2 15 "PageRotas$Incident" "cause" "I", Cond.fieldLink RX2 19 "PageRotas$Incident" "severity" "I", Cond.fieldLink RX2 22 "PageRotas$Incident" "level" "I", Cond.fieldLink RX2 25 "PageRotas$Incident" "owner" "I", Cond.fieldLink RX2 28 "PageRotas$Incident" "region" "I", Cond.fieldLink RX2 31 "PageRotas$Incident" "pagedAt" "I", Cond.fieldLink RX2 34 "PageRotas$Incident" "acknowledged" "Z", Cond.fieldLink RX2 37 "PageRotas$Incident" "alerts" "I", Cond.fieldLink RX2 40 "PageRotas$Incident" "firstAlert" "I", Cond.fieldLink RX2 43 "PageRotas$Incident" "latestAlert" "I", Cond.fieldLink RX2 46 "PageRotas$Incident" "unowned" "I", Cond.fieldLink RX2 49 "PageRotas$Incident" "handOffs" "I", Cond.fieldLink RX2 52 "PageRotas$Incident" "escalations" "I", Cond.methodLink RX1 46 yX9_copyFrom, Cond.instanceMethod yX9_copyFrom, Cond.selects RX9 yX9_copyFrom yX9_copyFrom, Cond.code yX9_copyFrom cX9_copyFrom 2 none, Cond.fieldLink RX9 9 "PageRotas$Totals" "alerts" "I", Cond.fieldLink RX9 15 "PageRotas$Totals" "folded" "I", Cond.fieldLink RX9 18 "PageRotas$Totals" "pages" "I", Cond.fieldLink RX9 21 "PageRotas$Totals" "resolved" "I"]
def wsL_law_r9 : List Cond := [Cond.fieldLink RX9 24 "PageRotas$Totals" "handOffs" "I", Cond.fieldLink RX9 27 "PageRotas$Totals" "escalations" "I", Cond.fieldLink RX9 30 "PageRotas$Totals" "unowned" "I", Cond.fieldLink RX9 33 "PageRotas$Totals" "open" "I", Cond.fieldLink RX9 36 "PageRotas$Totals" "acknowledgements" "I", Cond.fieldLink RX9 39 "PageRotas$Totals" "minutesToAcknowledge" "I", Cond.methodLink RX10 41 yX5_addPerson, Cond.instanceMethod yX5_addPerson, Cond.selects RX5 yX5_addPerson yX5_addPerson, Cond.code yX5_addPerson cX5_addPerson 2 (some .int), Cond.methodLink RX10 47 yX10_settled, Cond.instanceMethod yX10_settled, Cond.selects RX10 yX10_settled yX10_settled, Cond.code yX10_settled cX10_settled 2 (some .int), Cond.methodLink RX10 268 yX0_keepPrepared, Cond.instanceMethod yX0_keepPrepared, Cond.selects RX0 yX0_keepPrepared yX0_keepPrepared, Cond.code yX0_keepPrepared cX0_keepPrepared 1 none, Cond.methodLink RX0 26 yX0_dropOldest, Cond.instanceMethod yX0_dropOldest, Cond.selects RX0 yX0_dropOldest yX0_dropOldest, Cond.code yX0_dropOldest cX0_dropOldest 3 none, Cond.methodLink RL 17 yX11_person, Cond.instanceMethod yX11_person]
def wsL_law_r10 : List Cond := [Cond.selects RX11 yX11_person yX11_person, Cond.code yX11_person cX11_person 1 (some .int), Cond.methodLink RX11 108 yX11_begins, Cond.instanceMethod yX11_begins, Cond.selects RX11 yX11_begins yX11_begins, Cond.code yX11_begins cX11_begins 2 none, Cond.methodLink RX11 111 yX11_comes, Cond.instanceMethod yX11_comes, Cond.selects RX11 yX11_comes yX11_comes, Cond.code yX11_comes cX11_comes 1 (some .int), Cond.methodLink RX11 114 yX11_acted, Cond.instanceMethod yX11_acted, Cond.selects RX11 yX11_acted yX11_acted, Cond.code yX11_acted cX11_acted 3 (some .int), Cond.fieldLink RX11 28 "PageRotasModel" "states" "I", Cond.methodLink RL 18 yX10_region, Cond.instanceMethod yX10_region, Cond.selects RX10 yX10_region yX10_region, Cond.code yX10_region cX10_region 4 (some .int), Cond.methodLink RX10 51 yX5_addRegion, Cond.instanceMethod yX5_addRegion, Cond.selects RX5 yX5_addRegion yX5_addRegion, Cond.code yX5_addRegion cX5_addRegion 5 (some .int), Cond.methodLink RX5 52 yX7_isHour]
def wsL_law_r11 : List Cond := [Cond.static yX7_isHour, Cond.code yX7_isHour cX7_isHour 1 (some .boolean), Cond.methodLink RX5 58 yX4_put, Cond.instanceMethod yX4_put, Cond.selects RX4 yX4_put yX4_put, Cond.code yX4_put cX4_put 4 none, Cond.methodLink RL 22 yX11_region, Cond.instanceMethod yX11_region, Cond.selects RX11 yX11_region yX11_region, Cond.code yX11_region cX11_region 4 (some .int), Cond.methodLink RX11 117 yX11_lies, Cond.instanceMethod yX11_lies, Cond.selects RX11 yX11_lies yX11_lies, Cond.code yX11_lies cX11_lies 5 (some .int), Cond.methodLink RX11 32 yX11_in, Cond.static yX11_in, Cond.code yX11_in cX11_in 3 (some .boolean), Cond.methodLink RL 23 yX10_join, Cond.instanceMethod yX10_join, Cond.selects RX10 yX10_join yX10_join, Cond.code yX10_join cX10_join 3 (some .int), Cond.methodLink RX10 55 yX5_letJoin, Cond.instanceMethod yX5_letJoin, Cond.selects RX5 yX5_letJoin yX5_letJoin]
def wsL_law_r12 : List Cond := [Cond.code yX5_letJoin cX5_letJoin 3 (some .int), Cond.methodLink RX5 62 yX5_hasRegion, Cond.instanceMethod yX5_hasRegion, Cond.selects RX5 yX5_hasRegion yX5_hasRegion, Cond.code yX5_hasRegion cX5_hasRegion 2 (some .boolean), Cond.methodLink RX5 65 yX5_hasPerson, Cond.instanceMethod yX5_hasPerson, Cond.selects RX5 yX5_hasPerson yX5_hasPerson, Cond.code yX5_hasPerson cX5_hasPerson 2 (some .boolean), Cond.methodLink RX5 68 yX4_add, Cond.instanceMethod yX4_add, Cond.selects RX4 yX4_add yX4_add, Cond.code yX4_add cX4_add 2 (some .int), Cond.methodLink RX4 49 yX4_placeOf, Cond.instanceMethod yX4_placeOf, Cond.selects RX4 yX4_placeOf yX4_placeOf, Cond.code yX4_placeOf cX4_placeOf 3 (some .int), Cond.methodLink RL 27 yX11_join, Cond.instanceMethod yX11_join, Cond.selects RX11 yX11_join yX11_join, Cond.code yX11_join cX11_join 3 (some .int), Cond.methodLink RX11 121 yX11_joins, Cond.instanceMethod yX11_joins, Cond.selects RX11 yX11_joins yX11_joins]
def wsL_law_r13 : List Cond := [Cond.code yX11_joins cX11_joins 5 (some .int), Cond.methodLink RX11 77 yX11_isRegion, Cond.instanceMethod yX11_isRegion, Cond.selects RX11 yX11_isRegion yX11_isRegion, Cond.code yX11_isRegion cX11_isRegion 2 (some .boolean), Cond.methodLink RX11 80 yX11_isPerson, Cond.instanceMethod yX11_isPerson, Cond.selects RX11 yX11_isPerson yX11_isPerson, Cond.code yX11_isPerson cX11_isPerson 2 (some .boolean), Cond.methodLink RX11 83 yX11_placeIn, Cond.instanceMethod yX11_placeIn, Cond.selects RX11 yX11_placeIn yX11_placeIn, Cond.code yX11_placeIn cX11_placeIn 5 (some .int), Cond.methodLink RX11 40 yX11_ofWhere, Cond.instanceMethod yX11_ofWhere, Cond.selects RX11 yX11_ofWhere yX11_ofWhere, Cond.code yX11_ofWhere cX11_ofWhere 3 (some .int), Cond.methodLink RL 28 yX10_leave, Cond.instanceMethod yX10_leave, Cond.selects RX10 yX10_leave yX10_leave, Cond.code yX10_leave cX10_leave 3 (some .int), Cond.methodLink RX10 59 yX5_letLeave, Cond.instanceMethod yX5_letLeave, Cond.selects RX5 yX5_letLeave yX5_letLeave]
def wsL_law_r14 : List Cond := [Cond.code yX5_letLeave cX5_letLeave 3 (some .int), Cond.methodLink RX5 72 yX4_remove, Cond.instanceMethod yX4_remove, Cond.selects RX4 yX4_remove yX4_remove, Cond.code yX4_remove cX4_remove 4 (some .int), Cond.methodLink RL 31 yX11_leave, Cond.instanceMethod yX11_leave, Cond.selects RX11 yX11_leave yX11_leave, Cond.code yX11_leave cX11_leave 3 (some .int), Cond.methodLink RX11 124 yX11_leaves, Cond.instanceMethod yX11_leaves, Cond.selects RX11 yX11_leaves yX11_leaves, Cond.code yX11_leaves cX11_leaves 6 (some .int), Cond.methodLink RL 32 yX10_quiet, Cond.instanceMethod yX10_quiet, Cond.selects RX10 yX10_quiet yX10_quiet, Cond.code yX10_quiet cX10_quiet 4 (some .int), Cond.methodLink RX10 62 yX5_putQuietHours, Cond.instanceMethod yX5_putQuietHours, Cond.selects RX5 yX5_putQuietHours yX5_putQuietHours, Cond.code yX5_putQuietHours cX5_putQuietHours 4 (some .int), Cond.fieldLink RX5 75 "PageRotas$Person" "quiet" "LPageRotas$Span;", Cond.methodLink RX5 79 yX7_put, Cond.methodLink RX5 82 yX7_hours]
def wsL_law_r15 : List Cond := [Cond.instanceMethod yX7_hours, Cond.selects RX7 yX7_hours yX7_hours, Cond.code yX7_hours cX7_hours 1 (some .int), Cond.methodLink RL 35 yX11_quiet, Cond.instanceMethod yX11_quiet, Cond.selects RX11 yX11_quiet yX11_quiet, Cond.code yX11_quiet cX11_quiet 4 (some .int), Cond.methodLink RX11 127 yX11_rests, Cond.instanceMethod yX11_rests, Cond.selects RX11 yX11_rests yX11_rests, Cond.code yX11_rests cX11_rests 5 (some .int), Cond.methodLink RL 36 yX10_except, Cond.instanceMethod yX10_except, Cond.selects RX10 yX10_except yX10_except, Cond.code yX10_except cX10_except 3 (some .int), Cond.methodLink RX10 65 yX5_turnException, Cond.instanceMethod yX5_turnException, Cond.selects RX5 yX5_turnException yX5_turnException, Cond.code yX5_turnException cX5_turnException 3 (some .int), Cond.fieldLink RX5 86 "PageRotas$Person" "exceptions" "I", Cond.methodLink RX5 89 yJ6_bitCount_0f7a4, Cond.static yJ6_bitCount_0f7a4, Cond.initialized RJ6, Cond.code yJ6_bitCount_0f7a4 cJ6_bitCount_0f7a4 1 (some .int)]
def wsL_law_r16 : List Cond := [Cond.constant RJ6 265 (1431655765), Cond.constant RJ6 266 (858993459), Cond.constant RJ6 267 (252645135), Cond.methodLink RL 39 yX11_except, Cond.instanceMethod yX11_except, Cond.selects RX11 yX11_except yX11_except, Cond.code yX11_except cX11_except 3 (some .int), Cond.methodLink RX11 130 yX11_excepts, Cond.instanceMethod yX11_excepts, Cond.selects RX11 yX11_excepts yX11_excepts, Cond.code yX11_excepts cX11_excepts 3 (some .int), Cond.methodLink RX11 54 yX11_ofWho, Cond.instanceMethod yX11_ofWho, Cond.selects RX11 yX11_ofWho yX11_ofWho, Cond.code yX11_ofWho cX11_ofWho 3 (some .int), Cond.methodLink RX11 86 yX11_ones, Cond.static yX11_ones, Cond.code yX11_ones cX11_ones 3 (some .int), Cond.methodLink RL 40 yX10_override, Cond.instanceMethod yX10_override, Cond.selects RX10 yX10_override yX10_override, Cond.code yX10_override cX10_override 4 (some .int), Cond.methodLink RX10 68 yX1_putStandIn, Cond.instanceMethod yX1_putStandIn]
def wsL_law_r17 : List Cond := [Cond.selects RX1 yX1_putStandIn yX1_putStandIn, Cond.code yX1_putStandIn cX1_putStandIn 4 (some .int), Cond.methodLink RX1 62 yX5_hasRegion, Cond.methodLink RX1 66 yX5_hasPerson, Cond.methodLink RX1 69 yX5_addStandIn, Cond.instanceMethod yX5_addStandIn, Cond.selects RX5 yX5_addStandIn yX5_addStandIn, Cond.code yX5_addStandIn cX5_addStandIn 6 (some .int), Cond.fieldLink RX5 104 "PageRotas$StandIn" "region" "I", Cond.fieldLink RX5 107 "PageRotas$StandIn" "person" "I", Cond.fieldLink RX5 110 "PageRotas$StandIn" "end" "I", Cond.methodLink RX5 100 yX5_dropEndedStandIns, Cond.instanceMethod yX5_dropEndedStandIns, Cond.selects RX5 yX5_dropEndedStandIns yX5_dropEndedStandIns, Cond.code yX5_dropEndedStandIns cX5_dropEndedStandIns 4 none, Cond.methodLink RX5 97 yX8_isInForce, Cond.instanceMethod yX8_isInForce, Cond.selects RX8 yX8_isInForce yX8_isInForce, Cond.code yX8_isInForce cX8_isInForce 2 (some .boolean), Cond.methodLink RL 43 yX11_override, Cond.instanceMethod yX11_override, Cond.selects RX11 yX11_override yX11_override, Cond.code yX11_override cX11_override 4 (some .int), Cond.methodLink RX11 133 yX11_overrides]
def wsL_law_r18 : List Cond := [Cond.instanceMethod yX11_overrides, Cond.selects RX11 yX11_overrides yX11_overrides, Cond.code yX11_overrides cX11_overrides 5 (some .int), Cond.methodLink RX11 89 yX11_inForce, Cond.instanceMethod yX11_inForce, Cond.selects RX11 yX11_inForce yX11_inForce, Cond.code yX11_inForce cX11_inForce 3 (some .int), Cond.methodLink RX11 93 yX11_clears, Cond.instanceMethod yX11_clears, Cond.selects RX11 yX11_clears yX11_clears, Cond.code yX11_clears cX11_clears 4 none, Cond.methodLink RL 44 yX10_rotaAt, Cond.instanceMethod yX10_rotaAt, Cond.selects RX10 yX10_rotaAt yX10_rotaAt, Cond.code yX10_rotaAt cX10_rotaAt 4 (some .int), Cond.fieldLink RX10 75 "PageRotas$Rotas" "regions" "[LPageRotas$Region;", Cond.methodLink RX10 71 yX5_hasRegion, Cond.methodLink RX10 79 yX4_memberAt, Cond.instanceMethod yX4_memberAt, Cond.selects RX4 yX4_memberAt yX4_memberAt, Cond.code yX4_memberAt cX4_memberAt 2 (some .int), Cond.methodLink RL 47 yX11_rotaAt, Cond.instanceMethod yX11_rotaAt, Cond.selects RX11 yX11_rotaAt yX11_rotaAt]
def wsL_law_r19 : List Cond := [Cond.code yX11_rotaAt cX11_rotaAt 3 (some .int), Cond.methodLink RL 48 yX10_personOf, Cond.instanceMethod yX10_personOf, Cond.selects RX10 yX10_personOf yX10_personOf, Cond.code yX10_personOf cX10_personOf 4 (some .int), Cond.fieldLink RX10 87 "PageRotas$Rotas" "people" "[LPageRotas$Person;", Cond.fieldLink RX10 91 "PageRotas$Person" "pages" "I", Cond.fieldLink RX10 101 "PageRotas$Person" "resolved" "I", Cond.fieldLink RX10 107 "PageRotas$Person" "quiet" "LPageRotas$Span;", Cond.fieldLink RX10 111 "PageRotas$House" "time" "I", Cond.fieldLink RX10 122 "PageRotas$Person" "exceptions" "I", Cond.methodLink RX10 84 yX5_hasPerson, Cond.methodLink RX10 97 yX1_ownedBy, Cond.instanceMethod yX1_ownedBy, Cond.selects RX1 yX1_ownedBy yX1_ownedBy, Cond.code yX1_ownedBy cX1_ownedBy 6 (some .int), Cond.fieldLink RX1 52 "PageRotas$Incident" "open" "Z", Cond.fieldLink RX1 59 "PageRotas$Incident" "owner" "I", Cond.fieldLink RX1 56 "PageRotas$Incident" "acknowledged" "Z", Cond.methodLink RX10 104 yX5_regionsOf, Cond.instanceMethod yX5_regionsOf, Cond.selects RX5 yX5_regionsOf yX5_regionsOf, Cond.code yX5_regionsOf cX5_regionsOf 4 (some .int), Cond.methodLink RX5 94 yX4_placeOf]
def wsL_law_r20 : List Cond := [Cond.methodLink RX10 114 yX10_hourOfDay, Cond.static yX10_hourOfDay, Cond.code yX10_hourOfDay cX10_hourOfDay 1 (some .int), Cond.methodLink RX10 117 yX7_has, Cond.instanceMethod yX7_has, Cond.selects RX7 yX7_has yX7_has, Cond.code yX7_has cX7_has 2 (some .boolean), Cond.methodLink RL 51 yX11_personOf, Cond.instanceMethod yX11_personOf, Cond.selects RX11 yX11_personOf yX11_personOf, Cond.code yX11_personOf cX11_personOf 3 (some .int), Cond.methodLink RX11 151 yX11_ownedBy, Cond.instanceMethod yX11_ownedBy, Cond.selects RX11 yX11_ownedBy yX11_ownedBy, Cond.code yX11_ownedBy cX11_ownedBy 6 (some .int), Cond.methodLink RX11 36 yX11_incidentAt, Cond.static yX11_incidentAt, Cond.code yX11_incidentAt cX11_incidentAt 1 (some .int), Cond.methodLink RX11 70 yX11_isIncident, Cond.instanceMethod yX11_isIncident, Cond.selects RX11 yX11_isIncident yX11_isIncident, Cond.code yX11_isIncident cX11_isIncident 2 (some .boolean), Cond.methodLink RX11 155 yX11_rotasOf, Cond.instanceMethod yX11_rotasOf]
def wsL_law_r21 : List Cond := [Cond.selects RX11 yX11_rotasOf yX11_rotasOf, Cond.code yX11_rotasOf cX11_rotasOf 4 (some .int), Cond.methodLink RX11 60 yX11_isQuiet, Cond.instanceMethod yX11_isQuiet, Cond.selects RX11 yX11_isQuiet yX11_isQuiet, Cond.code yX11_isQuiet cX11_isQuiet 3 (some .boolean), Cond.methodLink RX11 44 yX11_isWithin, Cond.static yX11_isWithin, Cond.code yX11_isWithin cX11_isWithin 3 (some .boolean), Cond.methodLink RL 52 yX10_alert, Cond.instanceMethod yX10_alert, Cond.selects RX10 yX10_alert yX10_alert, Cond.code yX10_alert cX10_alert 3 (some .int), Cond.methodLink RX10 125 yX1_takeAlert, Cond.instanceMethod yX1_takeAlert, Cond.selects RX1 yX1_takeAlert yX1_takeAlert, Cond.code yX1_takeAlert cX1_takeAlert 5 (some .int), Cond.fieldLink RX1 73 "PageRotas$Incident" "cause" "I", Cond.fieldLink RX1 76 "PageRotas$Incident" "latestAlert" "I", Cond.fieldLink RX1 95 "PageRotas$Totals" "alerts" "I", Cond.methodLink RX1 79 yX1_fold, Cond.instanceMethod yX1_fold, Cond.selects RX1 yX1_fold yX1_fold, Cond.code yX1_fold cX1_fold 3 (some .boolean)]
def wsL_law_r22 : List Cond := [Cond.fieldLink RX1 98 "PageRotas$Incident" "alerts" "I", Cond.fieldLink RX1 99 "PageRotas$Totals" "folded" "I", Cond.fieldLink RX1 102 "PageRotas$Incident" "severity" "I", Cond.methodLink RX1 83 yX5_regionAt, Cond.instanceMethod yX5_regionAt, Cond.selects RX5 yX5_regionAt yX5_regionAt, Cond.code yX5_regionAt cX5_regionAt 4 (some .int), Cond.methodLink RX5 116 yX4_covers, Cond.instanceMethod yX4_covers, Cond.selects RX4 yX4_covers yX4_covers, Cond.code yX4_covers cX4_covers 2 (some .boolean), Cond.methodLink RX4 45 yX7_has, Cond.methodLink RX1 87 yX1_page, Cond.instanceMethod yX1_page, Cond.selects RX1 yX1_page yX1_page, Cond.code yX1_page cX1_page 5 none, Cond.fieldLink RX1 105 "PageRotas$Incident" "region" "I", Cond.fieldLink RX1 108 "PageRotas$Incident" "level" "I", Cond.fieldLink RX1 115 "PageRotas$Rotas" "people" "[LPageRotas$Person;", Cond.fieldLink RX1 128 "PageRotas$Incident" "pagedAt" "I", Cond.fieldLink RX1 131 "PageRotas$Person" "pages" "I", Cond.fieldLink RX1 134 "PageRotas$Totals" "pages" "I", Cond.methodLink RX1 111 yX5_personAt, Cond.instanceMethod yX5_personAt]
def wsL_law_r23 : List Cond := [Cond.selects RX5 yX5_personAt yX5_personAt, Cond.code yX5_personAt cX5_personAt 5 (some .int), Cond.methodLink RX5 119 Lib.Math.min.name, Cond.static Lib.Math.min.name, Cond.initialized "java/lang/Math", Cond.code Lib.Math.min.name Lib.Math.min.code 2 (some .int), Cond.fieldLink RX5 125 "PageRotas$Region" "shift" "I", Cond.fieldLink RX5 128 "PageRotas$Region" "size" "I", Cond.methodLink RX5 131 yX4_memberAt, Cond.methodLink RX1 122 yX3_sleepsThrough, Cond.instanceMethod yX3_sleepsThrough, Cond.selects RX3 yX3_sleepsThrough yX3_sleepsThrough, Cond.code yX3_sleepsThrough cX3_sleepsThrough 4 (some .boolean), Cond.methodLink RX3 36 yX7_has, Cond.methodLink RX1 91 yX2_makeNew, Cond.instanceMethod yX2_makeNew, Cond.selects RX2 yX2_makeNew yX2_makeNew, Cond.code yX2_makeNew cX2_makeNew 4 none, Cond.methodLink RL 55 yX11_alert, Cond.instanceMethod yX11_alert, Cond.selects RX11 yX11_alert yX11_alert, Cond.code yX11_alert cX11_alert 3 (some .int), Cond.methodLink RX11 136 yX11_alerts, Cond.instanceMethod yX11_alerts]
def wsL_law_r24 : List Cond := [Cond.selects RX11 yX11_alerts yX11_alerts, Cond.code yX11_alerts cX11_alerts 6 (some .int), Cond.methodLink RX11 99 yX11_foldsInto, Cond.instanceMethod yX11_foldsInto, Cond.selects RX11 yX11_foldsInto yX11_foldsInto, Cond.code yX11_foldsInto cX11_foldsInto 4 (some .int), Cond.methodLink RX11 102 yX11_opens, Cond.instanceMethod yX11_opens, Cond.selects RX11 yX11_opens yX11_opens, Cond.code yX11_opens cX11_opens 6 (some .int), Cond.methodLink RX11 96 yX11_lowestFree, Cond.instanceMethod yX11_lowestFree, Cond.selects RX11 yX11_lowestFree yX11_lowestFree, Cond.code yX11_lowestFree cX11_lowestFree 3 (some .int), Cond.methodLink RX11 66 yX11_pages, Cond.instanceMethod yX11_pages, Cond.selects RX11 yX11_pages yX11_pages, Cond.code yX11_pages cX11_pages 5 none, Cond.methodLink RX11 57 yX11_personAt, Cond.instanceMethod yX11_personAt, Cond.selects RX11 yX11_personAt yX11_personAt, Cond.code yX11_personAt cX11_personAt 7 (some .int), Cond.methodLink RX11 51 yX11_regionAt, Cond.instanceMethod yX11_regionAt]
def wsL_law_r25 : List Cond := [Cond.selects RX11 yX11_regionAt yX11_regionAt, Cond.code yX11_regionAt cX11_regionAt 4 (some .int), Cond.methodLink RX11 47 yX11_covers, Cond.instanceMethod yX11_covers, Cond.selects RX11 yX11_covers yX11_covers, Cond.code yX11_covers cX11_covers 3 (some .boolean), Cond.methodLink RX11 63 yX11_isException, Cond.instanceMethod yX11_isException, Cond.selects RX11 yX11_isException yX11_isException, Cond.code yX11_isException cX11_isException 3 (some .boolean), Cond.methodLink RL 56 yX10_acknowledge, Cond.instanceMethod yX10_acknowledge, Cond.selects RX10 yX10_acknowledge yX10_acknowledge, Cond.code yX10_acknowledge cX10_acknowledge 2 (some .int), Cond.methodLink RX10 128 yX1_takeAcknowledgement, Cond.instanceMethod yX1_takeAcknowledgement, Cond.selects RX1 yX1_takeAcknowledgement yX1_takeAcknowledgement, Cond.code yX1_takeAcknowledgement cX1_takeAcknowledgement 4 (some .int), Cond.fieldLink RX1 138 "PageRotas$Totals" "acknowledgements" "I", Cond.fieldLink RX1 141 "PageRotas$Totals" "minutesToAcknowledge" "I", Cond.methodLink RX1 135 yX1_isOpen, Cond.instanceMethod yX1_isOpen, Cond.selects RX1 yX1_isOpen yX1_isOpen, Cond.code yX1_isOpen cX1_isOpen 2 (some .boolean)]
def wsL_law_r26 : List Cond := [Cond.methodLink RL 60 yX11_acknowledge, Cond.instanceMethod yX11_acknowledge, Cond.selects RX11 yX11_acknowledge yX11_acknowledge, Cond.code yX11_acknowledge cX11_acknowledge 2 (some .int), Cond.methodLink RX11 139 yX11_acknowledges, Cond.instanceMethod yX11_acknowledges, Cond.selects RX11 yX11_acknowledges yX11_acknowledges, Cond.code yX11_acknowledges cX11_acknowledges 4 (some .int), Cond.methodLink RL 61 yX10_resolve, Cond.instanceMethod yX10_resolve, Cond.selects RX10 yX10_resolve yX10_resolve, Cond.code yX10_resolve cX10_resolve 2 (some .int), Cond.methodLink RX10 131 yX1_close, Cond.instanceMethod yX1_close, Cond.selects RX1 yX1_close yX1_close, Cond.code yX1_close cX1_close 3 (some .int), Cond.fieldLink RX1 144 "PageRotas$Totals" "resolved" "I", Cond.fieldLink RX1 147 "PageRotas$Person" "resolved" "I", Cond.fieldLink RX1 148 "PageRotas$Incident" "firstAlert" "I", Cond.methodLink RL 64 yX11_resolve, Cond.instanceMethod yX11_resolve, Cond.selects RX11 yX11_resolve yX11_resolve, Cond.code yX11_resolve cX11_resolve 2 (some .int), Cond.methodLink RX11 142 yX11_resolves]
def wsL_law_r27 : List Cond := [Cond.instanceMethod yX11_resolves, Cond.selects RX11 yX11_resolves yX11_resolves, Cond.code yX11_resolves cX11_resolves 4 (some .int), Cond.methodLink RL 65 yX10_pass, Cond.instanceMethod yX10_pass, Cond.selects RX10 yX10_pass yX10_pass, Cond.code yX10_pass cX10_pass 2 (some .int), Cond.methodLink RX10 134 yX1_letPass, Cond.instanceMethod yX1_letPass, Cond.selects RX1 yX1_letPass yX1_letPass, Cond.code yX1_letPass cX1_letPass 6 (some .int), Cond.methodLink RX1 151 yX1_age, Cond.instanceMethod yX1_age, Cond.selects RX1 yX1_age yX1_age, Cond.code yX1_age cX1_age 3 (some .boolean), Cond.fieldLink RX1 154 "PageRotas$Totals" "open" "I", Cond.fieldLink RX1 156 "PageRotas$Incident" "unowned" "I", Cond.fieldLink RX1 159 "PageRotas$Totals" "unowned" "I", Cond.fieldLink RX1 160 "PageRotas$Incident" "handOffs" "I", Cond.fieldLink RX1 163 "PageRotas$Totals" "handOffs" "I", Cond.fieldLink RX1 164 "PageRotas$Incident" "escalations" "I", Cond.fieldLink RX1 167 "PageRotas$Totals" "escalations" "I", Cond.methodLink RL 68 yX11_pass, Cond.instanceMethod yX11_pass]
def wsL_law_r28 : List Cond := [Cond.selects RX11 yX11_pass yX11_pass, Cond.code yX11_pass cX11_pass 2 (some .int), Cond.methodLink RX11 145 yX11_passes, Cond.instanceMethod yX11_passes, Cond.selects RX11 yX11_passes yX11_passes, Cond.code yX11_passes cX11_passes 4 (some .int), Cond.methodLink RX11 105 yX11_minute, Cond.instanceMethod yX11_minute, Cond.selects RX11 yX11_minute yX11_minute, Cond.code yX11_minute cX11_minute 2 none, Cond.methodLink RX11 74 yX11_minuteOf, Cond.instanceMethod yX11_minuteOf, Cond.selects RX11 yX11_minuteOf yX11_minuteOf, Cond.code yX11_minuteOf cX11_minuteOf 5 none, Cond.methodLink RL 69 yX10_set, Cond.instanceMethod yX10_set, Cond.selects RX10 yX10_set yX10_set, Cond.code yX10_set cX10_set 3 (some .int), Cond.methodLink RX10 137 yX1_putSetting, Cond.instanceMethod yX1_putSetting, Cond.selects RX1 yX1_putSetting yX1_putSetting, Cond.code yX1_putSetting cX1_putSetting 4 (some .int), Cond.methodLink RL 72 yX11_set, Cond.instanceMethod yX11_set]
def wsL_law_r29 : List Cond := [Cond.selects RX11 yX11_set yX11_set, Cond.code yX11_set cX11_set 3 (some .int), Cond.methodLink RX11 148 yX11_sets, Cond.instanceMethod yX11_sets, Cond.selects RX11 yX11_sets yX11_sets, Cond.code yX11_sets cX11_sets 4 (some .int), Cond.methodLink RL 73 yX10_incidentOf, Cond.instanceMethod yX10_incidentOf, Cond.selects RX10 yX10_incidentOf yX10_incidentOf, Cond.code yX10_incidentOf cX10_incidentOf 4 (some .int), Cond.fieldLink RX10 143 "PageRotas$House" "incidents" "[LPageRotas$Incident;", Cond.fieldLink RX10 147 "PageRotas$Incident" "cause" "I", Cond.fieldLink RX10 152 "PageRotas$Incident" "severity" "I", Cond.fieldLink RX10 155 "PageRotas$Incident" "level" "I", Cond.fieldLink RX10 158 "PageRotas$Incident" "owner" "I", Cond.fieldLink RX10 161 "PageRotas$Incident" "acknowledged" "Z", Cond.fieldLink RX10 165 "PageRotas$Incident" "alerts" "I", Cond.fieldLink RX10 168 "PageRotas$Incident" "firstAlert" "I", Cond.fieldLink RX10 171 "PageRotas$Incident" "latestAlert" "I", Cond.fieldLink RX10 174 "PageRotas$Incident" "unowned" "I", Cond.fieldLink RX10 177 "PageRotas$Incident" "pagedAt" "I", Cond.fieldLink RX10 180 "PageRotas$Incident" "handOffs" "I", Cond.fieldLink RX10 183 "PageRotas$Incident" "escalations" "I", Cond.methodLink RX10 140 yX1_isOpen]
def wsL_law_r30 : List Cond := [Cond.methodLink RL 76 yX11_incidentOf, Cond.instanceMethod yX11_incidentOf, Cond.selects RX11 yX11_incidentOf yX11_incidentOf, Cond.code yX11_incidentOf cX11_incidentOf 4 (some .int), Cond.methodLink RL 77 yX10_count, Cond.instanceMethod yX10_count, Cond.selects RX10 yX10_count yX10_count, Cond.code yX10_count cX10_count 2 (some .int), Cond.fieldLink RX10 186 "PageRotas$Rotas" "peopleCount" "I", Cond.fieldLink RX10 189 "PageRotas$Rotas" "regionCount" "I", Cond.fieldLink RX10 201 "PageRotas$History" "size" "I", Cond.fieldLink RX10 204 "PageRotas$Script" "length" "I", Cond.fieldLink RX10 207 "PageRotas$House" "escalateAfter" "I", Cond.fieldLink RX10 210 "PageRotas$House" "foldWithin" "I", Cond.fieldLink RX10 213 "PageRotas$House" "totals" "LPageRotas$Totals;", Cond.methodLink RX10 192 yX1_openIncidents, Cond.instanceMethod yX1_openIncidents, Cond.selects RX1 yX1_openIncidents yX1_openIncidents, Cond.code yX1_openIncidents cX1_openIncidents 3 (some .int), Cond.methodLink RX10 195 yX1_acknowledgedIncidents, Cond.instanceMethod yX1_acknowledgedIncidents, Cond.selects RX1 yX1_acknowledgedIncidents yX1_acknowledgedIncidents, Cond.code yX1_acknowledgedIncidents cX1_acknowledgedIncidents 3 (some .int), Cond.methodLink RX10 198 yX5_standInsAt]
def wsL_law_r31 : List Cond := [Cond.instanceMethod yX5_standInsAt, Cond.selects RX5 yX5_standInsAt yX5_standInsAt, Cond.code yX5_standInsAt cX5_standInsAt 4 (some .int), Cond.methodLink RX10 217 yX9_numbered, Cond.instanceMethod yX9_numbered, Cond.selects RX9 yX9_numbered yX9_numbered, Cond.code yX9_numbered cX9_numbered 2 (some .int), Cond.methodLink RL 80 yX11_count, Cond.instanceMethod yX11_count, Cond.selects RX11 yX11_count yX11_count, Cond.code yX11_count cX11_count 2 (some .int), Cond.fieldLink RX11 161 "PageRotasModel" "length" "I", Cond.methodLink RX11 158 yX11_openOnes, Cond.instanceMethod yX11_openOnes, Cond.selects RX11 yX11_openOnes yX11_openOnes, Cond.code yX11_openOnes cX11_openOnes 5 (some .int), Cond.methodLink RL 81 yX10_onCall, Cond.instanceMethod yX10_onCall, Cond.selects RX10 yX10_onCall yX10_onCall, Cond.code yX10_onCall cX10_onCall 6 (some .int), Cond.methodLink RX10 222 yX5_regionAt, Cond.methodLink RX10 225 yX5_personAt, Cond.methodLink RL 84 yX11_onCall, Cond.instanceMethod yX11_onCall]
def wsL_law_r32 : List Cond := [Cond.selects RX11 yX11_onCall yX11_onCall, Cond.code yX11_onCall cX11_onCall 5 (some .int), Cond.methodLink RL 85 yX10_uncovered, Cond.instanceMethod yX10_uncovered, Cond.selects RX10 yX10_uncovered yX10_uncovered, Cond.code yX10_uncovered cX10_uncovered 3 (some .int), Cond.methodLink RL 88 yX11_uncovered, Cond.instanceMethod yX11_uncovered, Cond.selects RX11 yX11_uncovered yX11_uncovered, Cond.code yX11_uncovered cX11_uncovered 3 (some .int), Cond.methodLink RL 89 yX10_later, Cond.instanceMethod yX10_later, Cond.selects RX10 yX10_later yX10_later, Cond.code yX10_later cX10_later 5 (some .int), Cond.methodLink RX10 228 yX1_copyFrom, Cond.methodLink RX10 231 yX1_follow, Cond.instanceMethod yX1_follow, Cond.selects RX1 yX1_follow yX1_follow, Cond.code yX1_follow cX1_follow 5 none, Cond.methodLink RL 92 yX11_later, Cond.instanceMethod yX11_later, Cond.selects RX11 yX11_later yX11_later, Cond.code yX11_later cX11_later 7 (some .int), Cond.methodLink RL 93 yX10_acknowledgeBits]
def wsL_law_r33 : List Cond := [Cond.instanceMethod yX10_acknowledgeBits, Cond.selects RX10 yX10_acknowledgeBits yX10_acknowledgeBits, Cond.code yX10_acknowledgeBits cX10_acknowledgeBits 2 (some .int), Cond.fieldLink RX10 235 "PageRotas$Totals" "acknowledgements" "I", Cond.fieldLink RX10 238 "PageRotas$Totals" "minutesToAcknowledge" "I", Cond.methodLink RX10 241 yX10_bitsOf, Cond.static yX10_bitsOf, Cond.code yX10_bitsOf cX10_bitsOf 3 (some .int), Cond.constantFloat RX10 271 (1056964608), Cond.constantFloat RX10 272 (1258291200), Cond.methodLink RL 96 yX11_acknowledgeBits, Cond.instanceMethod yX11_acknowledgeBits, Cond.selects RX11 yX11_acknowledgeBits yX11_acknowledgeBits, Cond.code yX11_acknowledgeBits cX11_acknowledgeBits 3 (some .int), Cond.methodLink RX11 164 yJxf58ca_floatToIntBits_5c35a, Cond.static yJxf58ca_floatToIntBits_5c35a, Cond.initialized RJxf58ca, Cond.code yJxf58ca_floatToIntBits_5c35a cJxf58ca_floatToIntBits_5c35a 1 (some .int), Cond.methodLink RJxf58ca 74 ⟨"java/lang/Float", "floatToRawIntBits", "(F)I"⟩, Cond.native ⟨"java/lang/Float", "floatToRawIntBits", "(F)I"⟩, Cond.static ⟨"java/lang/Float", "floatToRawIntBits", "(F)I"⟩, Cond.initialized "java/lang/Float", Cond.constant RJxf58ca 77 (2143289344), Cond.methodLink RJxf58ca 59 yJxf58ca_isNaN_12338]
def wsL_law_r34 : List Cond := [Cond.static yJxf58ca_isNaN_12338, Cond.code yJxf58ca_isNaN_12338 cJxf58ca_isNaN_12338 1 (some .boolean), Cond.methodLink RL 97 yX10_unownedBits, Cond.instanceMethod yX10_unownedBits, Cond.selects RX10 yX10_unownedBits yX10_unownedBits, Cond.code yX10_unownedBits cX10_unownedBits 2 (some .int), Cond.fieldLink RX10 245 "PageRotas$Totals" "open" "I", Cond.fieldLink RX10 248 "PageRotas$Totals" "unowned" "I", Cond.methodLink RL 100 yX11_unownedBits, Cond.instanceMethod yX11_unownedBits, Cond.selects RX11 yX11_unownedBits yX11_unownedBits, Cond.code yX11_unownedBits cX11_unownedBits 6 (some .int), Cond.methodLink RL 101 yX10_undo, Cond.instanceMethod yX10_undo, Cond.selects RX10 yX10_undo yX10_undo, Cond.code yX10_undo cX10_undo 1 (some .int), Cond.methodLink RX10 249 yX0_restore, Cond.instanceMethod yX0_restore, Cond.selects RX0 yX0_restore yX0_restore, Cond.code yX0_restore cX0_restore 2 none, Cond.methodLink RL 104 yX11_undo, Cond.instanceMethod yX11_undo, Cond.selects RX11 yX11_undo yX11_undo, Cond.code yX11_undo cX11_undo 2 (some .int)]
def wsL_law_r35 : List Cond := [Cond.methodLink RL 105 yX10_type, Cond.instanceMethod yX10_type, Cond.selects RX10 yX10_type yX10_type, Cond.code yX10_type cX10_type 2 (some .int), Cond.methodLink RX10 252 yX6_append, Cond.instanceMethod yX6_append, Cond.selects RX6 yX6_append yX6_append, Cond.code yX6_append cX6_append 2 (some .int), Cond.fieldLink RX6 23 "PageRotas$Script" "length" "I", Cond.methodLink RL 108 yX11_type, Cond.instanceMethod yX11_type, Cond.selects RX11 yX11_type yX11_type, Cond.code yX11_type cX11_type 2 (some .int), Cond.methodLink RL 109 yX10_clearText, Cond.instanceMethod yX10_clearText, Cond.selects RX10 yX10_clearText yX10_clearText, Cond.code yX10_clearText cX10_clearText 2 (some .int), Cond.methodLink RL 112 yX11_clearText, Cond.instanceMethod yX11_clearText, Cond.selects RX11 yX11_clearText yX11_clearText, Cond.code yX11_clearText cX11_clearText 2 (some .int), Cond.methodLink RL 113 yX10_fault, Cond.instanceMethod yX10_fault, Cond.selects RX10 yX10_fault yX10_fault]
def wsL_law_r36 : List Cond := [Cond.code yX10_fault cX10_fault 2 (some .int), Cond.fieldLink RX10 259 "PageRotas$Script" "faultReason" "I", Cond.fieldLink RX10 262 "PageRotas$Script" "faultAt" "I", Cond.methodLink RX10 256 yX6_perform, Cond.instanceMethod yX6_perform, Cond.selects RX6 yX6_perform yX6_perform, Cond.code yX6_perform cX6_perform 5 none, Cond.fieldLink RX6 26 "PageRotas$Script" "commands" "I", Cond.fieldLink RX6 40 "PageRotas$Script" "faultAt" "I", Cond.methodLink RX6 29 yX6_readCommand, Cond.instanceMethod yX6_readCommand, Cond.selects RX6 yX6_readCommand yX6_readCommand, Cond.code yX6_readCommand cX6_readCommand 5 (some .int), Cond.fieldLink RX6 43 "PageRotas$Script" "verb" "I", Cond.methodLink RX6 65 yX6_signAt, Cond.instanceMethod yX6_signAt, Cond.selects RX6 yX6_signAt yX6_signAt, Cond.code yX6_signAt cX6_signAt 2 (some .char), Cond.methodLink RX6 69 yX6_numbersAfter, Cond.static yX6_numbersAfter, Cond.code yX6_numbersAfter cX6_numbersAfter 1 (some .int), Cond.methodLink RX6 72 yX6_readNumber, Cond.instanceMethod yX6_readNumber, Cond.selects RX6 yX6_readNumber yX6_readNumber]
def wsL_law_r37 : List Cond := [Cond.code yX6_readNumber cX6_readNumber 6 (some .int), Cond.methodLink RX6 76 yX6_isDigit, Cond.static yX6_isDigit, Cond.code yX6_isDigit cX6_isDigit 1 (some .boolean), Cond.methodLink RX6 33 yX6_obey, Cond.instanceMethod yX6_obey, Cond.selects RX6 yX6_obey yX6_obey, Cond.code yX6_obey cX6_obey 2 (some .int), Cond.methodLink RX6 46 yX1_takeAlert, Cond.methodLink RX6 52 yX1_takeAcknowledgement, Cond.methodLink RX6 55 yX1_close, Cond.methodLink RX6 58 yX1_putStandIn, Cond.methodLink RX6 62 yX1_letPass, Cond.methodLink RX6 37 yX6_reasonOf, Cond.static yX6_reasonOf, Cond.code yX6_reasonOf cX6_reasonOf 1 (some .int), Cond.methodLink RL 116 yX11_fault, Cond.instanceMethod yX11_fault, Cond.selects RX11 yX11_fault yX11_fault, Cond.code yX11_fault cX11_fault 3 (some .int), Cond.fieldLink RX11 189 "PageRotasModel" "reason" "I", Cond.methodLink RX11 192 yX11_does, Cond.instanceMethod yX11_does, Cond.selects RX11 yX11_does yX11_does]
def wsL_law_r38 : List Cond := [Cond.code yX11_does cX11_does 4 (some .int), Cond.fieldLink RX11 170 "PageRotasModel" "at" "I", Cond.fieldLink RX11 173 "PageRotasModel" "isForm" "Z", Cond.methodLink RX11 186 yX11_command, Cond.instanceMethod yX11_command, Cond.selects RX11 yX11_command yX11_command, Cond.code yX11_command cX11_command 4 (some .int), Cond.methodLink RX11 177 yX11_here, Cond.instanceMethod yX11_here, Cond.selects RX11 yX11_here yX11_here, Cond.code yX11_here cX11_here 1 (some .int), Cond.methodLink RX11 183 yX11_readNumber, Cond.instanceMethod yX11_readNumber, Cond.selects RX11 yX11_readNumber yX11_readNumber, Cond.code yX11_readNumber cX11_readNumber 4 (some .int), Cond.methodLink RX11 180 yX11_must, Cond.instanceMethod yX11_must, Cond.selects RX11 yX11_must yX11_must, Cond.code yX11_must cX11_must 2 none, Cond.methodLink RX11 195 yX11_returns, Cond.instanceMethod yX11_returns, Cond.selects RX11 yX11_returns yX11_returns, Cond.code yX11_returns cX11_returns 2 none, Cond.methodLink RL 117 yX10_play]
def wsL_law_r39 : List Cond := [Cond.instanceMethod yX10_play, Cond.selects RX10 yX10_play yX10_play, Cond.code yX10_play cX10_play 1 (some .int), Cond.fieldLink RX10 265 "PageRotas$Script" "commands" "I", Cond.methodLink RL 120 yX11_play, Cond.instanceMethod yX11_play, Cond.selects RX11 yX11_play yX11_play, Cond.code yX11_play cX11_play 2 (some .int)]
def wsL_law : List Cond := (wsL_law_r1 ++ (wsL_law_r2 ++ (wsL_law_r3 ++ (wsL_law_r4 ++ (wsL_law_r5 ++ (wsL_law_r6 ++ (wsL_law_r7 ++ (wsL_law_r8 ++ (wsL_law_r9 ++ (wsL_law_r10 ++ (wsL_law_r11 ++ (wsL_law_r12 ++ (wsL_law_r13 ++ (wsL_law_r14 ++ (wsL_law_r15 ++ (wsL_law_r16 ++ (wsL_law_r17 ++ (wsL_law_r18 ++ (wsL_law_r19 ++ (wsL_law_r20 ++ (wsL_law_r21 ++ (wsL_law_r22 ++ (wsL_law_r23 ++ (wsL_law_r24 ++ (wsL_law_r25 ++ (wsL_law_r26 ++ (wsL_law_r27 ++ (wsL_law_r28 ++ (wsL_law_r29 ++ (wsL_law_r30 ++ (wsL_law_r31 ++ (wsL_law_r32 ++ (wsL_law_r33 ++ (wsL_law_r34 ++ (wsL_law_r35 ++ (wsL_law_r36 ++ (wsL_law_r37 ++ (wsL_law_r38 ++ wsL_law_r39)))))))))))))))))))))))))))))))))))))) ++ wsX100 ++ wsX110 ++ wsX10 ++ wsX00 ++ wsX60 ++ wsX50 ++ wsX90 ++ wsX20 ++ wsX30 ++ wsX40 ++ wsX80 ++ wsX70 ++ ([] : List Cond)
set_option maxRecDepth 20000 in
theorem wsL_law_in : ∀ w ∈ wsL_law, w ∈ lw_tbl := fun w h => (goodIn_p wsL_law [72, 75, 80, 86, 97, 103, 140, 163, 208, 258, 358, 375, 814, 420, 424, 428, 432, 436, 440, 444, 452, 456, 460, 464, 468, 472, 476, 853, 857, 861, 865, 480, 484, 487, 491, 869, 873, 876, 495, 499, 503, 507, 511, 515, 880, 884, 888, 892, 896, 900, 519, 523, 527, 904, 908, 531, 535, 540, 912, 916, 544, 548, 551, 920, 924, 928, 931, 558, 562, 568, 572, 576, 935, 939, 943, 947, 580, 585, 1045, 589, 594, 598, 602, 606, 1049, 1053, 962, 966, 1057, 997, 993, 610, 614, 618, 622, 627, 632, 636, 639, 645, 650, 951, 955, 959, 970, 974, 978, 982, 986, 990, 1001, 654, 658, 662, 1005, 1009, 666, 670, 1013, 1017, 674, 678, 682, 1021, 1025, 1029, 1033, 686, 690, 1037, 1041, 694, 1061, 699, 703, 707, 711, 715, 1065, 1069, 719, 1073, 725, 1077, 729, 734, 1081, 738, 741, 1085, 1088, 1091, 747, 1099, 751, 755, 1103, 759, 763, 1107, 767, 1111, 771, 775, 779, 783, 786, 790, 793, 797, 805, 1115, 1119, 1123, 1127, 1131, 1135, 1139, 809, 1143] (by decide +kernel) (by decide +kernel) w h).1
theorem inlX0 : ∀ w ∈ wsX00, w ∈ wsL_law := fun _ h => List.mem_append_left _ (List.mem_append_left _ (List.mem_append_left _ (List.mem_append_left _ (List.mem_append_left _ (List.mem_append_left _ (List.mem_append_left _ (List.mem_append_left _ (List.mem_append_left _ (List.mem_append_right _ h)))))))))
theorem inX0 : ∀ w ∈ wsX00, w ∈ lw_tbl := fun w h => wsL_law_in w (inlX0 w h)
theorem inlX1 : ∀ w ∈ wsX10, w ∈ wsL_law := fun _ h => List.mem_append_left _ (List.mem_append_left _ (List.mem_append_left _ (List.mem_append_left _ (List.mem_append_left _ (List.mem_append_left _ (List.mem_append_left _ (List.mem_append_left _ (List.mem_append_left _ (List.mem_append_left _ (List.mem_append_right _ h))))))))))
theorem inX1 : ∀ w ∈ wsX10, w ∈ lw_tbl := fun w h => wsL_law_in w (inlX1 w h)
theorem inlX2 : ∀ w ∈ wsX20, w ∈ wsL_law := fun _ h => List.mem_append_left _ (List.mem_append_left _ (List.mem_append_left _ (List.mem_append_left _ (List.mem_append_left _ (List.mem_append_right _ h)))))
theorem inX2 : ∀ w ∈ wsX20, w ∈ lw_tbl := fun w h => wsL_law_in w (inlX2 w h)
theorem inlX3 : ∀ w ∈ wsX30, w ∈ wsL_law := fun _ h => List.mem_append_left _ (List.mem_append_left _ (List.mem_append_left _ (List.mem_append_left _ (List.mem_append_right _ h))))
theorem inX3 : ∀ w ∈ wsX30, w ∈ lw_tbl := fun w h => wsL_law_in w (inlX3 w h)
theorem inlX4 : ∀ w ∈ wsX40, w ∈ wsL_law := fun _ h => List.mem_append_left _ (List.mem_append_left _ (List.mem_append_left _ (List.mem_append_right _ h)))
theorem inX4 : ∀ w ∈ wsX40, w ∈ lw_tbl := fun w h => wsL_law_in w (inlX4 w h)
theorem inlX5 : ∀ w ∈ wsX50, w ∈ wsL_law := fun _ h => List.mem_append_left _ (List.mem_append_left _ (List.mem_append_left _ (List.mem_append_left _ (List.mem_append_left _ (List.mem_append_left _ (List.mem_append_left _ (List.mem_append_right _ h)))))))
theorem inX5 : ∀ w ∈ wsX50, w ∈ lw_tbl := fun w h => wsL_law_in w (inlX5 w h)
theorem inlX6 : ∀ w ∈ wsX60, w ∈ wsL_law := fun _ h => List.mem_append_left _ (List.mem_append_left _ (List.mem_append_left _ (List.mem_append_left _ (List.mem_append_left _ (List.mem_append_left _ (List.mem_append_left _ (List.mem_append_left _ (List.mem_append_right _ h))))))))
theorem inX6 : ∀ w ∈ wsX60, w ∈ lw_tbl := fun w h => wsL_law_in w (inlX6 w h)
theorem inlX7 : ∀ w ∈ wsX70, w ∈ wsL_law := fun _ h => List.mem_append_left _ (List.mem_append_right _ h)
theorem inX7 : ∀ w ∈ wsX70, w ∈ lw_tbl := fun w h => wsL_law_in w (inlX7 w h)
theorem inlX8 : ∀ w ∈ wsX80, w ∈ wsL_law := fun _ h => List.mem_append_left _ (List.mem_append_left _ (List.mem_append_right _ h))
theorem inX8 : ∀ w ∈ wsX80, w ∈ lw_tbl := fun w h => wsL_law_in w (inlX8 w h)
theorem inlX9 : ∀ w ∈ wsX90, w ∈ wsL_law := fun _ h => List.mem_append_left _ (List.mem_append_left _ (List.mem_append_left _ (List.mem_append_left _ (List.mem_append_left _ (List.mem_append_left _ (List.mem_append_right _ h))))))
theorem inX9 : ∀ w ∈ wsX90, w ∈ lw_tbl := fun w h => wsL_law_in w (inlX9 w h)
theorem inlX10 : ∀ w ∈ wsX100, w ∈ wsL_law := fun _ h => List.mem_append_left _ (List.mem_append_left _ (List.mem_append_left _ (List.mem_append_left _ (List.mem_append_left _ (List.mem_append_left _ (List.mem_append_left _ (List.mem_append_left _ (List.mem_append_left _ (List.mem_append_left _ (List.mem_append_left _ (List.mem_append_left _ (List.mem_append_right _ h))))))))))))
theorem inX10 : ∀ w ∈ wsX100, w ∈ lw_tbl := fun w h => wsL_law_in w (inlX10 w h)
theorem inlX11 : ∀ w ∈ wsX110, w ∈ wsL_law := fun _ h => List.mem_append_left _ (List.mem_append_left _ (List.mem_append_left _ (List.mem_append_left _ (List.mem_append_left _ (List.mem_append_left _ (List.mem_append_left _ (List.mem_append_left _ (List.mem_append_left _ (List.mem_append_left _ (List.mem_append_left _ (List.mem_append_right _ h)))))))))))
theorem inX11 : ∀ w ∈ wsX110, w ∈ lw_tbl := fun w h => wsL_law_in w (inlX11 w h)
theorem inJxf58ca : ∀ w ∈ wsJxf58ca0, w ∈ lw_tbl := by decide +kernel
theorem inJ6 : ∀ w ∈ wsJ60, w ∈ lw_tbl := by decide +kernel
theorem inJ9 : ∀ w ∈ wsJ90, w ∈ lw_tbl := by decide +kernel
theorem inJ10 : ∀ w ∈ wsJ100, w ∈ lw_tbl := by decide +kernel
theorem dX0_init_0 : decode cX0_init 0 = .ok (.aload_n 0, 1) := by decide +kernel
theorem dX0_init_1 : decode cX0_init 1 = .ok (.invokespecial 3, 3) := by decide +kernel
theorem dX0_init_4 : decode cX0_init 4 = .ok (.aload_n 0, 1) := by decide +kernel
theorem dX0_init_5 : decode cX0_init 5 = .ok (.iconst 5, 1) := by decide +kernel
theorem dX0_init_6 : decode cX0_init 6 = .ok (.anewarray 9, 3) := by decide +kernel
theorem dX0_init_9 : decode cX0_init 9 = .ok (.putfield 11, 3) := by decide +kernel
theorem dX0_init_12 : decode cX0_init 12 = .ok (.iconst 0, 1) := by decide +kernel
theorem dX0_init_13 : decode cX0_init 13 = .ok (.istore_n 1, 1) := by decide +kernel
theorem dX0_init_14 : decode cX0_init 14 = .ok (.iload_n 1, 1) := by decide +kernel
theorem dX0_init_15 : decode cX0_init 15 = .ok (.aload_n 0, 1) := by decide +kernel
theorem dX0_init_16 : decode cX0_init 16 = .ok (.getfield 11, 3) := by decide +kernel
theorem dX0_init_19 : decode cX0_init 19 = .ok (.arraylength, 1) := by decide +kernel
theorem dX0_init_20 : decode cX0_init 20 = .ok (.if_icmp .ge 22, 3) := by decide +kernel
theorem dX0_init_23 : decode cX0_init 23 = .ok (.aload_n 0, 1) := by decide +kernel
theorem dX0_init_24 : decode cX0_init 24 = .ok (.getfield 11, 3) := by decide +kernel
theorem dX0_init_27 : decode cX0_init 27 = .ok (.iload_n 1, 1) := by decide +kernel
theorem dX0_init_28 : decode cX0_init 28 = .ok (.new 9, 3) := by decide +kernel
theorem dX0_init_31 : decode cX0_init 31 = .ok (.dup, 1) := by decide +kernel
theorem dX0_init_32 : decode cX0_init 32 = .ok (.invokespecial 17, 3) := by decide +kernel
theorem dX0_init_35 : decode cX0_init 35 = .ok (.aastore, 1) := by decide +kernel
theorem dX0_init_36 : decode cX0_init 36 = .ok (.iinc 1 1, 3) := by decide +kernel
theorem dX0_init_39 : decode cX0_init 39 = .ok (.goto (-25), 3) := by decide +kernel
theorem dX0_init_42 : decode cX0_init 42 = .ok (.return_, 1) := by decide +kernel
theorem dX0_prepare_0 : decode cX0_prepare 0 = .ok (.aload_n 0, 1) := by decide +kernel
theorem dX0_prepare_1 : decode cX0_prepare 1 = .ok (.getfield 18, 3) := by decide +kernel
theorem dX0_prepare_4 : decode cX0_prepare 4 = .ok (.ifCond .lt 28, 3) := by decide +kernel
theorem dX0_prepare_7 : decode cX0_prepare 7 = .ok (.aload_n 0, 1) := by decide +kernel
theorem dX0_prepare_8 : decode cX0_prepare 8 = .ok (.getfield 18, 3) := by decide +kernel
theorem dX0_prepare_11 : decode cX0_prepare 11 = .ok (.aload_n 0, 1) := by decide +kernel
theorem dX0_prepare_12 : decode cX0_prepare 12 = .ok (.getfield 11, 3) := by decide +kernel
theorem dX0_prepare_15 : decode cX0_prepare 15 = .ok (.arraylength, 1) := by decide +kernel
theorem dX0_prepare_16 : decode cX0_prepare 16 = .ok (.if_icmp .ge 16, 3) := by decide +kernel
theorem dX0_prepare_19 : decode cX0_prepare 19 = .ok (.aload_n 0, 1) := by decide +kernel
theorem dX0_prepare_20 : decode cX0_prepare 20 = .ok (.getfield 11, 3) := by decide +kernel
theorem dX0_prepare_23 : decode cX0_prepare 23 = .ok (.aload_n 0, 1) := by decide +kernel
theorem dX0_prepare_24 : decode cX0_prepare 24 = .ok (.getfield 18, 3) := by decide +kernel
theorem dX0_prepare_27 : decode cX0_prepare 27 = .ok (.aaload, 1) := by decide +kernel
theorem dX0_prepare_28 : decode cX0_prepare 28 = .ok (.aload_n 1, 1) := by decide +kernel
theorem dX0_prepare_29 : decode cX0_prepare 29 = .ok (.invokevirtual 22, 3) := by decide +kernel
theorem dX0_prepare_32 : decode cX0_prepare 32 = .ok (.return_, 1) := by decide +kernel
theorem dX0_keepPrepared_0 : decode cX0_keepPrepared 0 = .ok (.aload_n 0, 1) := by decide +kernel
theorem dX0_keepPrepared_1 : decode cX0_keepPrepared 1 = .ok (.dup, 1) := by decide +kernel
theorem dX0_keepPrepared_2 : decode cX0_keepPrepared 2 = .ok (.getfield 18, 3) := by decide +kernel
theorem dX0_keepPrepared_5 : decode cX0_keepPrepared 5 = .ok (.iconst 1, 1) := by decide +kernel
theorem dX0_keepPrepared_6 : decode cX0_keepPrepared 6 = .ok (.iadd, 1) := by decide +kernel
theorem dX0_keepPrepared_7 : decode cX0_keepPrepared 7 = .ok (.putfield 18, 3) := by decide +kernel
theorem dX0_keepPrepared_10 : decode cX0_keepPrepared 10 = .ok (.aload_n 0, 1) := by decide +kernel
theorem dX0_keepPrepared_11 : decode cX0_keepPrepared 11 = .ok (.getfield 18, 3) := by decide +kernel
theorem dX0_keepPrepared_14 : decode cX0_keepPrepared 14 = .ok (.iconst 4, 1) := by decide +kernel
theorem dX0_keepPrepared_15 : decode cX0_keepPrepared 15 = .ok (.if_icmp .le 7, 3) := by decide +kernel
theorem dX0_keepPrepared_18 : decode cX0_keepPrepared 18 = .ok (.aload_n 0, 1) := by decide +kernel
theorem dX0_keepPrepared_19 : decode cX0_keepPrepared 19 = .ok (.invokevirtual 26, 3) := by decide +kernel
theorem dX0_keepPrepared_22 : decode cX0_keepPrepared 22 = .ok (.return_, 1) := by decide +kernel
theorem dX0_dropOldest_0 : decode cX0_dropOldest 0 = .ok (.iconst 0, 1) := by decide +kernel
theorem dX0_dropOldest_1 : decode cX0_dropOldest 1 = .ok (.istore_n 1, 1) := by decide +kernel
theorem dX0_dropOldest_2 : decode cX0_dropOldest 2 = .ok (.iload_n 1, 1) := by decide +kernel
theorem dX0_dropOldest_3 : decode cX0_dropOldest 3 = .ok (.iconst 1, 1) := by decide +kernel
theorem dX0_dropOldest_4 : decode cX0_dropOldest 4 = .ok (.iadd, 1) := by decide +kernel
theorem dX0_dropOldest_5 : decode cX0_dropOldest 5 = .ok (.aload_n 0, 1) := by decide +kernel
theorem dX0_dropOldest_6 : decode cX0_dropOldest 6 = .ok (.getfield 11, 3) := by decide +kernel
theorem dX0_dropOldest_9 : decode cX0_dropOldest 9 = .ok (.arraylength, 1) := by decide +kernel
theorem dX0_dropOldest_10 : decode cX0_dropOldest 10 = .ok (.if_icmp .ge 39, 3) := by decide +kernel
theorem dX0_dropOldest_13 : decode cX0_dropOldest 13 = .ok (.aload_n 0, 1) := by decide +kernel
theorem dX0_dropOldest_14 : decode cX0_dropOldest 14 = .ok (.getfield 11, 3) := by decide +kernel
theorem dX0_dropOldest_17 : decode cX0_dropOldest 17 = .ok (.iload_n 1, 1) := by decide +kernel
theorem dX0_dropOldest_18 : decode cX0_dropOldest 18 = .ok (.aaload, 1) := by decide +kernel
theorem dX0_dropOldest_19 : decode cX0_dropOldest 19 = .ok (.astore_n 2, 1) := by decide +kernel
theorem dX0_dropOldest_20 : decode cX0_dropOldest 20 = .ok (.aload_n 0, 1) := by decide +kernel
theorem dX0_dropOldest_21 : decode cX0_dropOldest 21 = .ok (.getfield 11, 3) := by decide +kernel
theorem dX0_dropOldest_24 : decode cX0_dropOldest 24 = .ok (.iload_n 1, 1) := by decide +kernel
theorem dX0_dropOldest_25 : decode cX0_dropOldest 25 = .ok (.aload_n 0, 1) := by decide +kernel
theorem dX0_dropOldest_26 : decode cX0_dropOldest 26 = .ok (.getfield 11, 3) := by decide +kernel
theorem dX0_dropOldest_29 : decode cX0_dropOldest 29 = .ok (.iload_n 1, 1) := by decide +kernel
theorem dX0_dropOldest_30 : decode cX0_dropOldest 30 = .ok (.iconst 1, 1) := by decide +kernel
theorem dX0_dropOldest_31 : decode cX0_dropOldest 31 = .ok (.iadd, 1) := by decide +kernel
theorem dX0_dropOldest_32 : decode cX0_dropOldest 32 = .ok (.aaload, 1) := by decide +kernel
theorem dX0_dropOldest_33 : decode cX0_dropOldest 33 = .ok (.aastore, 1) := by decide +kernel
theorem dX0_dropOldest_34 : decode cX0_dropOldest 34 = .ok (.aload_n 0, 1) := by decide +kernel
theorem dX0_dropOldest_35 : decode cX0_dropOldest 35 = .ok (.getfield 11, 3) := by decide +kernel
theorem dX0_dropOldest_38 : decode cX0_dropOldest 38 = .ok (.iload_n 1, 1) := by decide +kernel
theorem dX0_dropOldest_39 : decode cX0_dropOldest 39 = .ok (.iconst 1, 1) := by decide +kernel
theorem dX0_dropOldest_40 : decode cX0_dropOldest 40 = .ok (.iadd, 1) := by decide +kernel
theorem dX0_dropOldest_41 : decode cX0_dropOldest 41 = .ok (.aload_n 2, 1) := by decide +kernel
theorem dX0_dropOldest_42 : decode cX0_dropOldest 42 = .ok (.aastore, 1) := by decide +kernel
theorem dX0_dropOldest_43 : decode cX0_dropOldest 43 = .ok (.iinc 1 1, 3) := by decide +kernel
theorem dX0_dropOldest_46 : decode cX0_dropOldest 46 = .ok (.goto (-44), 3) := by decide +kernel
theorem dX0_dropOldest_49 : decode cX0_dropOldest 49 = .ok (.aload_n 0, 1) := by decide +kernel
theorem dX0_dropOldest_50 : decode cX0_dropOldest 50 = .ok (.iconst 4, 1) := by decide +kernel
theorem dX0_dropOldest_51 : decode cX0_dropOldest 51 = .ok (.putfield 18, 3) := by decide +kernel
theorem dX0_dropOldest_54 : decode cX0_dropOldest 54 = .ok (.return_, 1) := by decide +kernel
theorem dX0_restore_0 : decode cX0_restore 0 = .ok (.aload_n 0, 1) := by decide +kernel
theorem dX0_restore_1 : decode cX0_restore 1 = .ok (.getfield 18, 3) := by decide +kernel
theorem dX0_restore_4 : decode cX0_restore 4 = .ok (.ifCond .le 38, 3) := by decide +kernel
theorem dX0_restore_7 : decode cX0_restore 7 = .ok (.aload_n 0, 1) := by decide +kernel
theorem dX0_restore_8 : decode cX0_restore 8 = .ok (.getfield 18, 3) := by decide +kernel
theorem dX0_restore_11 : decode cX0_restore 11 = .ok (.aload_n 0, 1) := by decide +kernel
theorem dX0_restore_12 : decode cX0_restore 12 = .ok (.getfield 11, 3) := by decide +kernel
theorem dX0_restore_15 : decode cX0_restore 15 = .ok (.arraylength, 1) := by decide +kernel
theorem dX0_restore_16 : decode cX0_restore 16 = .ok (.if_icmp .gt 26, 3) := by decide +kernel
theorem dX0_restore_19 : decode cX0_restore 19 = .ok (.aload_n 0, 1) := by decide +kernel
theorem dX0_restore_20 : decode cX0_restore 20 = .ok (.dup, 1) := by decide +kernel
theorem dX0_restore_21 : decode cX0_restore 21 = .ok (.getfield 18, 3) := by decide +kernel
theorem dX0_restore_24 : decode cX0_restore 24 = .ok (.iconst 1, 1) := by decide +kernel
theorem dX0_restore_25 : decode cX0_restore 25 = .ok (.isub, 1) := by decide +kernel
theorem dX0_restore_26 : decode cX0_restore 26 = .ok (.putfield 18, 3) := by decide +kernel
theorem dX0_restore_29 : decode cX0_restore 29 = .ok (.aload_n 1, 1) := by decide +kernel
theorem dX0_restore_30 : decode cX0_restore 30 = .ok (.aload_n 0, 1) := by decide +kernel
theorem dX0_restore_31 : decode cX0_restore 31 = .ok (.getfield 11, 3) := by decide +kernel
theorem dX0_restore_34 : decode cX0_restore 34 = .ok (.aload_n 0, 1) := by decide +kernel
theorem dX0_restore_35 : decode cX0_restore 35 = .ok (.getfield 18, 3) := by decide +kernel
theorem dX0_restore_38 : decode cX0_restore 38 = .ok (.aaload, 1) := by decide +kernel
theorem dX0_restore_39 : decode cX0_restore 39 = .ok (.invokevirtual 22, 3) := by decide +kernel
theorem dX0_restore_42 : decode cX0_restore 42 = .ok (.return_, 1) := by decide +kernel
theorem dX1_init_0 : decode cX1_init 0 = .ok (.aload_n 0, 1) := by decide +kernel
theorem dX1_init_1 : decode cX1_init 1 = .ok (.invokespecial 3, 3) := by decide +kernel
theorem dX1_init_4 : decode cX1_init 4 = .ok (.aload_n 0, 1) := by decide +kernel
theorem dX1_init_5 : decode cX1_init 5 = .ok (.new 9, 3) := by decide +kernel
theorem dX1_init_8 : decode cX1_init 8 = .ok (.dup, 1) := by decide +kernel
theorem dX1_init_9 : decode cX1_init 9 = .ok (.invokespecial 11, 3) := by decide +kernel
theorem dX1_init_12 : decode cX1_init 12 = .ok (.putfield 12, 3) := by decide +kernel
theorem dX1_init_15 : decode cX1_init 15 = .ok (.aload_n 0, 1) := by decide +kernel
theorem dX1_init_16 : decode cX1_init 16 = .ok (.bipush 8, 2) := by decide +kernel
theorem dX1_init_18 : decode cX1_init 18 = .ok (.anewarray 18, 3) := by decide +kernel
theorem dX1_init_21 : decode cX1_init 21 = .ok (.putfield 20, 3) := by decide +kernel
theorem dX1_init_24 : decode cX1_init 24 = .ok (.aload_n 0, 1) := by decide +kernel
theorem dX1_init_25 : decode cX1_init 25 = .ok (.new 24, 3) := by decide +kernel
theorem dX1_init_28 : decode cX1_init 28 = .ok (.dup, 1) := by decide +kernel
theorem dX1_init_29 : decode cX1_init 29 = .ok (.invokespecial 26, 3) := by decide +kernel
theorem dX1_init_32 : decode cX1_init 32 = .ok (.putfield 27, 3) := by decide +kernel
theorem dX1_init_35 : decode cX1_init 35 = .ok (.aload_n 0, 1) := by decide +kernel
theorem dX1_init_36 : decode cX1_init 36 = .ok (.bipush 10, 2) := by decide +kernel
theorem dX1_init_38 : decode cX1_init 38 = .ok (.putfield 31, 3) := by decide +kernel
theorem dX1_init_41 : decode cX1_init 41 = .ok (.aload_n 0, 1) := by decide +kernel
theorem dX1_init_42 : decode cX1_init 42 = .ok (.bipush 30, 2) := by decide +kernel
theorem dX1_init_44 : decode cX1_init 44 = .ok (.putfield 35, 3) := by decide +kernel
theorem dX1_init_47 : decode cX1_init 47 = .ok (.iconst 0, 1) := by decide +kernel
theorem dX1_init_48 : decode cX1_init 48 = .ok (.istore_n 1, 1) := by decide +kernel
theorem dX1_init_49 : decode cX1_init 49 = .ok (.iload_n 1, 1) := by decide +kernel
theorem dX1_init_50 : decode cX1_init 50 = .ok (.aload_n 0, 1) := by decide +kernel
theorem dX1_init_51 : decode cX1_init 51 = .ok (.getfield 20, 3) := by decide +kernel
theorem dX1_init_54 : decode cX1_init 54 = .ok (.arraylength, 1) := by decide +kernel
theorem dX1_init_55 : decode cX1_init 55 = .ok (.if_icmp .ge 22, 3) := by decide +kernel
theorem dX1_init_58 : decode cX1_init 58 = .ok (.aload_n 0, 1) := by decide +kernel
theorem dX1_init_59 : decode cX1_init 59 = .ok (.getfield 20, 3) := by decide +kernel
theorem dX1_init_62 : decode cX1_init 62 = .ok (.iload_n 1, 1) := by decide +kernel
theorem dX1_init_63 : decode cX1_init 63 = .ok (.new 18, 3) := by decide +kernel
theorem dX1_init_66 : decode cX1_init 66 = .ok (.dup, 1) := by decide +kernel
theorem dX1_init_67 : decode cX1_init 67 = .ok (.invokespecial 38, 3) := by decide +kernel
theorem dX1_init_70 : decode cX1_init 70 = .ok (.aastore, 1) := by decide +kernel
theorem dX1_init_71 : decode cX1_init 71 = .ok (.iinc 1 1, 3) := by decide +kernel
theorem dX1_init_74 : decode cX1_init 74 = .ok (.goto (-25), 3) := by decide +kernel
theorem dX1_init_77 : decode cX1_init 77 = .ok (.return_, 1) := by decide +kernel
theorem dX1_copyFrom_0 : decode cX1_copyFrom 0 = .ok (.aload_n 0, 1) := by decide +kernel
theorem dX1_copyFrom_1 : decode cX1_copyFrom 1 = .ok (.getfield 12, 3) := by decide +kernel
theorem dX1_copyFrom_4 : decode cX1_copyFrom 4 = .ok (.aload_n 1, 1) := by decide +kernel
theorem dX1_copyFrom_5 : decode cX1_copyFrom 5 = .ok (.getfield 12, 3) := by decide +kernel
theorem dX1_copyFrom_8 : decode cX1_copyFrom 8 = .ok (.invokevirtual 39, 3) := by decide +kernel
theorem dX1_copyFrom_11 : decode cX1_copyFrom 11 = .ok (.iconst 0, 1) := by decide +kernel
theorem dX1_copyFrom_12 : decode cX1_copyFrom 12 = .ok (.istore_n 2, 1) := by decide +kernel
theorem dX1_copyFrom_13 : decode cX1_copyFrom 13 = .ok (.iload_n 2, 1) := by decide +kernel
theorem dX1_copyFrom_14 : decode cX1_copyFrom 14 = .ok (.aload_n 0, 1) := by decide +kernel
theorem dX1_copyFrom_15 : decode cX1_copyFrom 15 = .ok (.getfield 20, 3) := by decide +kernel
theorem dX1_copyFrom_18 : decode cX1_copyFrom 18 = .ok (.arraylength, 1) := by decide +kernel
theorem dX1_copyFrom_19 : decode cX1_copyFrom 19 = .ok (.if_icmp .ge 33, 3) := by decide +kernel
theorem dX1_copyFrom_22 : decode cX1_copyFrom 22 = .ok (.iload_n 2, 1) := by decide +kernel
theorem dX1_copyFrom_23 : decode cX1_copyFrom 23 = .ok (.aload_n 1, 1) := by decide +kernel
theorem dX1_copyFrom_24 : decode cX1_copyFrom 24 = .ok (.getfield 20, 3) := by decide +kernel
theorem dX1_copyFrom_27 : decode cX1_copyFrom 27 = .ok (.arraylength, 1) := by decide +kernel
theorem dX1_copyFrom_28 : decode cX1_copyFrom 28 = .ok (.if_icmp .ge 24, 3) := by decide +kernel
theorem dX1_copyFrom_31 : decode cX1_copyFrom 31 = .ok (.aload_n 0, 1) := by decide +kernel
theorem dX1_copyFrom_32 : decode cX1_copyFrom 32 = .ok (.getfield 20, 3) := by decide +kernel
theorem dX1_copyFrom_35 : decode cX1_copyFrom 35 = .ok (.iload_n 2, 1) := by decide +kernel
theorem dX1_copyFrom_36 : decode cX1_copyFrom 36 = .ok (.aaload, 1) := by decide +kernel
theorem dX1_copyFrom_37 : decode cX1_copyFrom 37 = .ok (.aload_n 1, 1) := by decide +kernel
theorem dX1_copyFrom_38 : decode cX1_copyFrom 38 = .ok (.getfield 20, 3) := by decide +kernel
theorem dX1_copyFrom_41 : decode cX1_copyFrom 41 = .ok (.iload_n 2, 1) := by decide +kernel
theorem dX1_copyFrom_42 : decode cX1_copyFrom 42 = .ok (.aaload, 1) := by decide +kernel
theorem dX1_copyFrom_43 : decode cX1_copyFrom 43 = .ok (.invokevirtual 43, 3) := by decide +kernel
theorem dX1_copyFrom_46 : decode cX1_copyFrom 46 = .ok (.iinc 2 1, 3) := by decide +kernel
theorem dX1_copyFrom_49 : decode cX1_copyFrom 49 = .ok (.goto (-36), 3) := by decide +kernel
theorem dX1_copyFrom_52 : decode cX1_copyFrom 52 = .ok (.aload_n 0, 1) := by decide +kernel
theorem dX1_copyFrom_53 : decode cX1_copyFrom 53 = .ok (.getfield 27, 3) := by decide +kernel
theorem dX1_copyFrom_56 : decode cX1_copyFrom 56 = .ok (.aload_n 1, 1) := by decide +kernel
theorem dX1_copyFrom_57 : decode cX1_copyFrom 57 = .ok (.getfield 27, 3) := by decide +kernel
theorem dX1_copyFrom_60 : decode cX1_copyFrom 60 = .ok (.invokevirtual 46, 3) := by decide +kernel
theorem dX1_copyFrom_63 : decode cX1_copyFrom 63 = .ok (.aload_n 0, 1) := by decide +kernel
theorem dX1_copyFrom_64 : decode cX1_copyFrom 64 = .ok (.aload_n 1, 1) := by decide +kernel
theorem dX1_copyFrom_65 : decode cX1_copyFrom 65 = .ok (.getfield 49, 3) := by decide +kernel
theorem dX1_copyFrom_68 : decode cX1_copyFrom 68 = .ok (.putfield 49, 3) := by decide +kernel
theorem dX1_copyFrom_71 : decode cX1_copyFrom 71 = .ok (.aload_n 0, 1) := by decide +kernel
theorem dX1_copyFrom_72 : decode cX1_copyFrom 72 = .ok (.aload_n 1, 1) := by decide +kernel
theorem dX1_copyFrom_73 : decode cX1_copyFrom 73 = .ok (.getfield 31, 3) := by decide +kernel
theorem dX1_copyFrom_76 : decode cX1_copyFrom 76 = .ok (.putfield 31, 3) := by decide +kernel
theorem dX1_copyFrom_79 : decode cX1_copyFrom 79 = .ok (.aload_n 0, 1) := by decide +kernel
theorem dX1_copyFrom_80 : decode cX1_copyFrom 80 = .ok (.aload_n 1, 1) := by decide +kernel
theorem dX1_copyFrom_81 : decode cX1_copyFrom 81 = .ok (.getfield 35, 3) := by decide +kernel
theorem dX1_copyFrom_84 : decode cX1_copyFrom 84 = .ok (.putfield 35, 3) := by decide +kernel
theorem dX1_copyFrom_87 : decode cX1_copyFrom 87 = .ok (.return_, 1) := by decide +kernel
theorem dX1_isOpen_0 : decode cX1_isOpen 0 = .ok (.iload_n 1, 1) := by decide +kernel
theorem dX1_isOpen_1 : decode cX1_isOpen 1 = .ok (.ifCond .lt 28, 3) := by decide +kernel
theorem dX1_isOpen_4 : decode cX1_isOpen 4 = .ok (.iload_n 1, 1) := by decide +kernel
theorem dX1_isOpen_5 : decode cX1_isOpen 5 = .ok (.aload_n 0, 1) := by decide +kernel
theorem dX1_isOpen_6 : decode cX1_isOpen 6 = .ok (.getfield 20, 3) := by decide +kernel
theorem dX1_isOpen_9 : decode cX1_isOpen 9 = .ok (.arraylength, 1) := by decide +kernel
theorem dX1_isOpen_10 : decode cX1_isOpen 10 = .ok (.if_icmp .ge 19, 3) := by decide +kernel
theorem dX1_isOpen_13 : decode cX1_isOpen 13 = .ok (.aload_n 0, 1) := by decide +kernel
theorem dX1_isOpen_14 : decode cX1_isOpen 14 = .ok (.getfield 20, 3) := by decide +kernel
theorem dX1_isOpen_17 : decode cX1_isOpen 17 = .ok (.iload_n 1, 1) := by decide +kernel
theorem dX1_isOpen_18 : decode cX1_isOpen 18 = .ok (.aaload, 1) := by decide +kernel
theorem dX1_isOpen_19 : decode cX1_isOpen 19 = .ok (.getfield 52, 3) := by decide +kernel
theorem dX1_isOpen_22 : decode cX1_isOpen 22 = .ok (.ifCond .eq 7, 3) := by decide +kernel
theorem dX1_isOpen_25 : decode cX1_isOpen 25 = .ok (.iconst 1, 1) := by decide +kernel
theorem dX1_isOpen_26 : decode cX1_isOpen 26 = .ok (.goto 4, 3) := by decide +kernel
theorem dX1_isOpen_29 : decode cX1_isOpen 29 = .ok (.iconst 0, 1) := by decide +kernel
theorem dX1_isOpen_30 : decode cX1_isOpen 30 = .ok (.ireturn, 1) := by decide +kernel
theorem dX1_openIncidents_0 : decode cX1_openIncidents 0 = .ok (.iconst 0, 1) := by decide +kernel
theorem dX1_openIncidents_1 : decode cX1_openIncidents 1 = .ok (.istore_n 1, 1) := by decide +kernel
theorem dX1_openIncidents_2 : decode cX1_openIncidents 2 = .ok (.iconst 0, 1) := by decide +kernel
theorem dX1_openIncidents_3 : decode cX1_openIncidents 3 = .ok (.istore_n 2, 1) := by decide +kernel
theorem dX1_openIncidents_4 : decode cX1_openIncidents 4 = .ok (.iload_n 2, 1) := by decide +kernel
theorem dX1_openIncidents_5 : decode cX1_openIncidents 5 = .ok (.aload_n 0, 1) := by decide +kernel
theorem dX1_openIncidents_6 : decode cX1_openIncidents 6 = .ok (.getfield 20, 3) := by decide +kernel
theorem dX1_openIncidents_9 : decode cX1_openIncidents 9 = .ok (.arraylength, 1) := by decide +kernel
theorem dX1_openIncidents_10 : decode cX1_openIncidents 10 = .ok (.if_icmp .ge 24, 3) := by decide +kernel
theorem dX1_openIncidents_13 : decode cX1_openIncidents 13 = .ok (.aload_n 0, 1) := by decide +kernel
theorem dX1_openIncidents_14 : decode cX1_openIncidents 14 = .ok (.getfield 20, 3) := by decide +kernel
theorem dX1_openIncidents_17 : decode cX1_openIncidents 17 = .ok (.iload_n 2, 1) := by decide +kernel
theorem dX1_openIncidents_18 : decode cX1_openIncidents 18 = .ok (.aaload, 1) := by decide +kernel
theorem dX1_openIncidents_19 : decode cX1_openIncidents 19 = .ok (.getfield 52, 3) := by decide +kernel
theorem dX1_openIncidents_22 : decode cX1_openIncidents 22 = .ok (.ifCond .eq 6, 3) := by decide +kernel
theorem dX1_openIncidents_25 : decode cX1_openIncidents 25 = .ok (.iinc 1 1, 3) := by decide +kernel
theorem dX1_openIncidents_28 : decode cX1_openIncidents 28 = .ok (.iinc 2 1, 3) := by decide +kernel
theorem dX1_openIncidents_31 : decode cX1_openIncidents 31 = .ok (.goto (-27), 3) := by decide +kernel
theorem dX1_openIncidents_34 : decode cX1_openIncidents 34 = .ok (.iload_n 1, 1) := by decide +kernel
theorem dX1_openIncidents_35 : decode cX1_openIncidents 35 = .ok (.ireturn, 1) := by decide +kernel
theorem dX1_acknowledgedIncidents_0 : decode cX1_acknowledgedIncidents 0 = .ok (.iconst 0, 1) := by decide +kernel
theorem dX1_acknowledgedIncidents_1 : decode cX1_acknowledgedIncidents 1 = .ok (.istore_n 1, 1) := by decide +kernel
theorem dX1_acknowledgedIncidents_2 : decode cX1_acknowledgedIncidents 2 = .ok (.iconst 0, 1) := by decide +kernel
theorem dX1_acknowledgedIncidents_3 : decode cX1_acknowledgedIncidents 3 = .ok (.istore_n 2, 1) := by decide +kernel
theorem dX1_acknowledgedIncidents_4 : decode cX1_acknowledgedIncidents 4 = .ok (.iload_n 2, 1) := by decide +kernel
theorem dX1_acknowledgedIncidents_5 : decode cX1_acknowledgedIncidents 5 = .ok (.aload_n 0, 1) := by decide +kernel
theorem dX1_acknowledgedIncidents_6 : decode cX1_acknowledgedIncidents 6 = .ok (.getfield 20, 3) := by decide +kernel
theorem dX1_acknowledgedIncidents_9 : decode cX1_acknowledgedIncidents 9 = .ok (.arraylength, 1) := by decide +kernel
theorem dX1_acknowledgedIncidents_10 : decode cX1_acknowledgedIncidents 10 = .ok (.if_icmp .ge 36, 3) := by decide +kernel
theorem dX1_acknowledgedIncidents_13 : decode cX1_acknowledgedIncidents 13 = .ok (.aload_n 0, 1) := by decide +kernel
theorem dX1_acknowledgedIncidents_14 : decode cX1_acknowledgedIncidents 14 = .ok (.getfield 20, 3) := by decide +kernel
theorem dX1_acknowledgedIncidents_17 : decode cX1_acknowledgedIncidents 17 = .ok (.iload_n 2, 1) := by decide +kernel
theorem dX1_acknowledgedIncidents_18 : decode cX1_acknowledgedIncidents 18 = .ok (.aaload, 1) := by decide +kernel
theorem dX1_acknowledgedIncidents_19 : decode cX1_acknowledgedIncidents 19 = .ok (.getfield 52, 3) := by decide +kernel
theorem dX1_acknowledgedIncidents_22 : decode cX1_acknowledgedIncidents 22 = .ok (.ifCond .eq 18, 3) := by decide +kernel
theorem dX1_acknowledgedIncidents_25 : decode cX1_acknowledgedIncidents 25 = .ok (.aload_n 0, 1) := by decide +kernel
theorem dX1_acknowledgedIncidents_26 : decode cX1_acknowledgedIncidents 26 = .ok (.getfield 20, 3) := by decide +kernel
theorem dX1_acknowledgedIncidents_29 : decode cX1_acknowledgedIncidents 29 = .ok (.iload_n 2, 1) := by decide +kernel
theorem dX1_acknowledgedIncidents_30 : decode cX1_acknowledgedIncidents 30 = .ok (.aaload, 1) := by decide +kernel
theorem dX1_acknowledgedIncidents_31 : decode cX1_acknowledgedIncidents 31 = .ok (.getfield 56, 3) := by decide +kernel
theorem dX1_acknowledgedIncidents_34 : decode cX1_acknowledgedIncidents 34 = .ok (.ifCond .eq 6, 3) := by decide +kernel
theorem dX1_acknowledgedIncidents_37 : decode cX1_acknowledgedIncidents 37 = .ok (.iinc 1 1, 3) := by decide +kernel
theorem dX1_acknowledgedIncidents_40 : decode cX1_acknowledgedIncidents 40 = .ok (.iinc 2 1, 3) := by decide +kernel
theorem dX1_acknowledgedIncidents_43 : decode cX1_acknowledgedIncidents 43 = .ok (.goto (-39), 3) := by decide +kernel
theorem dX1_acknowledgedIncidents_46 : decode cX1_acknowledgedIncidents 46 = .ok (.iload_n 1, 1) := by decide +kernel
theorem dX1_acknowledgedIncidents_47 : decode cX1_acknowledgedIncidents 47 = .ok (.ireturn, 1) := by decide +kernel
theorem dX1_ownedBy_0 : decode cX1_ownedBy 0 = .ok (.iconst 0, 1) := by decide +kernel
theorem dX1_ownedBy_1 : decode cX1_ownedBy 1 = .ok (.istore_n 3, 1) := by decide +kernel
theorem dX1_ownedBy_2 : decode cX1_ownedBy 2 = .ok (.iconst 0, 1) := by decide +kernel
theorem dX1_ownedBy_3 : decode cX1_ownedBy 3 = .ok (.istore 4, 2) := by decide +kernel
theorem dX1_ownedBy_5 : decode cX1_ownedBy 5 = .ok (.iload 4, 2) := by decide +kernel
theorem dX1_ownedBy_7 : decode cX1_ownedBy 7 = .ok (.aload_n 0, 1) := by decide +kernel
theorem dX1_ownedBy_8 : decode cX1_ownedBy 8 = .ok (.getfield 20, 3) := by decide +kernel
theorem dX1_ownedBy_11 : decode cX1_ownedBy 11 = .ok (.arraylength, 1) := by decide +kernel
theorem dX1_ownedBy_12 : decode cX1_ownedBy 12 = .ok (.if_icmp .ge 50, 3) := by decide +kernel
theorem dX1_ownedBy_15 : decode cX1_ownedBy 15 = .ok (.aload_n 0, 1) := by decide +kernel
theorem dX1_ownedBy_16 : decode cX1_ownedBy 16 = .ok (.getfield 20, 3) := by decide +kernel
theorem dX1_ownedBy_19 : decode cX1_ownedBy 19 = .ok (.iload 4, 2) := by decide +kernel
theorem dX1_ownedBy_21 : decode cX1_ownedBy 21 = .ok (.aaload, 1) := by decide +kernel
theorem dX1_ownedBy_22 : decode cX1_ownedBy 22 = .ok (.astore 5, 2) := by decide +kernel
theorem dX1_ownedBy_24 : decode cX1_ownedBy 24 = .ok (.aload 5, 2) := by decide +kernel
theorem dX1_ownedBy_26 : decode cX1_ownedBy 26 = .ok (.getfield 52, 3) := by decide +kernel
theorem dX1_ownedBy_29 : decode cX1_ownedBy 29 = .ok (.ifCond .eq 27, 3) := by decide +kernel
theorem dX1_ownedBy_32 : decode cX1_ownedBy 32 = .ok (.aload 5, 2) := by decide +kernel
theorem dX1_ownedBy_34 : decode cX1_ownedBy 34 = .ok (.getfield 59, 3) := by decide +kernel
theorem dX1_ownedBy_37 : decode cX1_ownedBy 37 = .ok (.iload_n 1, 1) := by decide +kernel
theorem dX1_ownedBy_38 : decode cX1_ownedBy 38 = .ok (.if_icmp .ne 18, 3) := by decide +kernel
theorem dX1_ownedBy_41 : decode cX1_ownedBy 41 = .ok (.aload 5, 2) := by decide +kernel
theorem dX1_ownedBy_43 : decode cX1_ownedBy 43 = .ok (.getfield 56, 3) := by decide +kernel
theorem dX1_ownedBy_46 : decode cX1_ownedBy 46 = .ok (.ifCond .ne 7, 3) := by decide +kernel
theorem dX1_ownedBy_49 : decode cX1_ownedBy 49 = .ok (.iload_n 2, 1) := by decide +kernel
theorem dX1_ownedBy_50 : decode cX1_ownedBy 50 = .ok (.ifCond .ne 6, 3) := by decide +kernel
theorem dX1_ownedBy_53 : decode cX1_ownedBy 53 = .ok (.iinc 3 1, 3) := by decide +kernel
theorem dX1_ownedBy_56 : decode cX1_ownedBy 56 = .ok (.iinc 4 1, 3) := by decide +kernel
theorem dX1_ownedBy_59 : decode cX1_ownedBy 59 = .ok (.goto (-54), 3) := by decide +kernel
theorem dX1_ownedBy_62 : decode cX1_ownedBy 62 = .ok (.iload_n 3, 1) := by decide +kernel
theorem dX1_ownedBy_63 : decode cX1_ownedBy 63 = .ok (.ireturn, 1) := by decide +kernel
theorem dX1_putStandIn_0 : decode cX1_putStandIn 0 = .ok (.aload_n 0, 1) := by decide +kernel
theorem dX1_putStandIn_1 : decode cX1_putStandIn 1 = .ok (.getfield 12, 3) := by decide +kernel
theorem dX1_putStandIn_4 : decode cX1_putStandIn 4 = .ok (.iload_n 1, 1) := by decide +kernel
theorem dX1_putStandIn_5 : decode cX1_putStandIn 5 = .ok (.invokevirtual 62, 3) := by decide +kernel
theorem dX1_putStandIn_8 : decode cX1_putStandIn 8 = .ok (.ifCond .eq 25, 3) := by decide +kernel
theorem dX1_putStandIn_11 : decode cX1_putStandIn 11 = .ok (.aload_n 0, 1) := by decide +kernel
theorem dX1_putStandIn_12 : decode cX1_putStandIn 12 = .ok (.getfield 12, 3) := by decide +kernel
theorem dX1_putStandIn_15 : decode cX1_putStandIn 15 = .ok (.iload_n 2, 1) := by decide +kernel
theorem dX1_putStandIn_16 : decode cX1_putStandIn 16 = .ok (.invokevirtual 66, 3) := by decide +kernel
theorem dX1_putStandIn_19 : decode cX1_putStandIn 19 = .ok (.ifCond .eq 14, 3) := by decide +kernel
theorem dX1_putStandIn_22 : decode cX1_putStandIn 22 = .ok (.iload_n 3, 1) := by decide +kernel
theorem dX1_putStandIn_23 : decode cX1_putStandIn 23 = .ok (.iconst 1, 1) := by decide +kernel
theorem dX1_putStandIn_24 : decode cX1_putStandIn 24 = .ok (.if_icmp .lt 9, 3) := by decide +kernel
theorem dX1_putStandIn_27 : decode cX1_putStandIn 27 = .ok (.iload_n 3, 1) := by decide +kernel
theorem dX1_putStandIn_28 : decode cX1_putStandIn 28 = .ok (.bipush 99, 2) := by decide +kernel
theorem dX1_putStandIn_30 : decode cX1_putStandIn 30 = .ok (.if_icmp .le 5, 3) := by decide +kernel
theorem dX1_putStandIn_33 : decode cX1_putStandIn 33 = .ok (.iconst (-1), 1) := by decide +kernel
theorem dX1_putStandIn_34 : decode cX1_putStandIn 34 = .ok (.ireturn, 1) := by decide +kernel
theorem dX1_putStandIn_35 : decode cX1_putStandIn 35 = .ok (.aload_n 0, 1) := by decide +kernel
theorem dX1_putStandIn_36 : decode cX1_putStandIn 36 = .ok (.getfield 12, 3) := by decide +kernel
theorem dX1_putStandIn_39 : decode cX1_putStandIn 39 = .ok (.iload_n 1, 1) := by decide +kernel
theorem dX1_putStandIn_40 : decode cX1_putStandIn 40 = .ok (.iload_n 2, 1) := by decide +kernel
theorem dX1_putStandIn_41 : decode cX1_putStandIn 41 = .ok (.aload_n 0, 1) := by decide +kernel
theorem dX1_putStandIn_42 : decode cX1_putStandIn 42 = .ok (.getfield 49, 3) := by decide +kernel
theorem dX1_putStandIn_45 : decode cX1_putStandIn 45 = .ok (.aload_n 0, 1) := by decide +kernel
theorem dX1_putStandIn_46 : decode cX1_putStandIn 46 = .ok (.getfield 49, 3) := by decide +kernel
theorem dX1_putStandIn_49 : decode cX1_putStandIn 49 = .ok (.iload_n 3, 1) := by decide +kernel
theorem dX1_putStandIn_50 : decode cX1_putStandIn 50 = .ok (.bipush 60, 2) := by decide +kernel
theorem dX1_putStandIn_52 : decode cX1_putStandIn 52 = .ok (.imul, 1) := by decide +kernel
theorem dX1_putStandIn_53 : decode cX1_putStandIn 53 = .ok (.iadd, 1) := by decide +kernel
theorem dX1_putStandIn_54 : decode cX1_putStandIn 54 = .ok (.invokevirtual 69, 3) := by decide +kernel
theorem dX1_putStandIn_57 : decode cX1_putStandIn 57 = .ok (.ireturn, 1) := by decide +kernel
theorem dX1_putSetting_0 : decode cX1_putSetting 0 = .ok (.iload_n 1, 1) := by decide +kernel
theorem dX1_putSetting_1 : decode cX1_putSetting 1 = .ok (.ifCond .ne 26, 3) := by decide +kernel
theorem dX1_putSetting_4 : decode cX1_putSetting 4 = .ok (.iload_n 2, 1) := by decide +kernel
theorem dX1_putSetting_5 : decode cX1_putSetting 5 = .ok (.iconst 1, 1) := by decide +kernel
theorem dX1_putSetting_6 : decode cX1_putSetting 6 = .ok (.if_icmp .lt 21, 3) := by decide +kernel
theorem dX1_putSetting_9 : decode cX1_putSetting 9 = .ok (.iload_n 2, 1) := by decide +kernel
theorem dX1_putSetting_10 : decode cX1_putSetting 10 = .ok (.bipush 120, 2) := by decide +kernel
theorem dX1_putSetting_12 : decode cX1_putSetting 12 = .ok (.if_icmp .gt 15, 3) := by decide +kernel
theorem dX1_putSetting_15 : decode cX1_putSetting 15 = .ok (.aload_n 0, 1) := by decide +kernel
theorem dX1_putSetting_16 : decode cX1_putSetting 16 = .ok (.getfield 31, 3) := by decide +kernel
theorem dX1_putSetting_19 : decode cX1_putSetting 19 = .ok (.istore_n 3, 1) := by decide +kernel
theorem dX1_putSetting_20 : decode cX1_putSetting 20 = .ok (.aload_n 0, 1) := by decide +kernel
theorem dX1_putSetting_21 : decode cX1_putSetting 21 = .ok (.iload_n 2, 1) := by decide +kernel
theorem dX1_putSetting_22 : decode cX1_putSetting 22 = .ok (.putfield 31, 3) := by decide +kernel
theorem dX1_putSetting_25 : decode cX1_putSetting 25 = .ok (.iload_n 3, 1) := by decide +kernel
theorem dX1_putSetting_26 : decode cX1_putSetting 26 = .ok (.ireturn, 1) := by decide +kernel
theorem dX1_putSetting_27 : decode cX1_putSetting 27 = .ok (.iload_n 1, 1) := by decide +kernel
theorem dX1_putSetting_28 : decode cX1_putSetting 28 = .ok (.iconst 1, 1) := by decide +kernel
theorem dX1_putSetting_29 : decode cX1_putSetting 29 = .ok (.if_icmp .ne 26, 3) := by decide +kernel
theorem dX1_putSetting_32 : decode cX1_putSetting 32 = .ok (.iload_n 2, 1) := by decide +kernel
theorem dX1_putSetting_33 : decode cX1_putSetting 33 = .ok (.ifCond .lt 22, 3) := by decide +kernel
theorem dX1_putSetting_36 : decode cX1_putSetting 36 = .ok (.iload_n 2, 1) := by decide +kernel
theorem dX1_putSetting_37 : decode cX1_putSetting 37 = .ok (.sipush 600, 3) := by decide +kernel
theorem dX1_putSetting_40 : decode cX1_putSetting 40 = .ok (.if_icmp .gt 15, 3) := by decide +kernel
theorem dX1_putSetting_43 : decode cX1_putSetting 43 = .ok (.aload_n 0, 1) := by decide +kernel
theorem dX1_putSetting_44 : decode cX1_putSetting 44 = .ok (.getfield 35, 3) := by decide +kernel
theorem dX1_putSetting_47 : decode cX1_putSetting 47 = .ok (.istore_n 3, 1) := by decide +kernel
theorem dX1_putSetting_48 : decode cX1_putSetting 48 = .ok (.aload_n 0, 1) := by decide +kernel
theorem dX1_putSetting_49 : decode cX1_putSetting 49 = .ok (.iload_n 2, 1) := by decide +kernel
theorem dX1_putSetting_50 : decode cX1_putSetting 50 = .ok (.putfield 35, 3) := by decide +kernel
theorem dX1_putSetting_53 : decode cX1_putSetting 53 = .ok (.iload_n 3, 1) := by decide +kernel
theorem dX1_putSetting_54 : decode cX1_putSetting 54 = .ok (.ireturn, 1) := by decide +kernel
theorem dX1_putSetting_55 : decode cX1_putSetting 55 = .ok (.iconst (-1), 1) := by decide +kernel
theorem dX1_putSetting_56 : decode cX1_putSetting 56 = .ok (.ireturn, 1) := by decide +kernel
theorem dX1_takeAlert_0 : decode cX1_takeAlert 0 = .ok (.iload_n 1, 1) := by decide +kernel
theorem dX1_takeAlert_1 : decode cX1_takeAlert 1 = .ok (.ifCond .lt 18, 3) := by decide +kernel
theorem dX1_takeAlert_4 : decode cX1_takeAlert 4 = .ok (.iload_n 1, 1) := by decide +kernel
theorem dX1_takeAlert_5 : decode cX1_takeAlert 5 = .ok (.bipush 20, 2) := by decide +kernel
theorem dX1_takeAlert_7 : decode cX1_takeAlert 7 = .ok (.if_icmp .ge 12, 3) := by decide +kernel
theorem dX1_takeAlert_10 : decode cX1_takeAlert 10 = .ok (.iload_n 2, 1) := by decide +kernel
theorem dX1_takeAlert_11 : decode cX1_takeAlert 11 = .ok (.ifCond .lt 8, 3) := by decide +kernel
theorem dX1_takeAlert_14 : decode cX1_takeAlert 14 = .ok (.iload_n 2, 1) := by decide +kernel
theorem dX1_takeAlert_15 : decode cX1_takeAlert 15 = .ok (.iconst 2, 1) := by decide +kernel
theorem dX1_takeAlert_16 : decode cX1_takeAlert 16 = .ok (.if_icmp .le 5, 3) := by decide +kernel
theorem dX1_takeAlert_19 : decode cX1_takeAlert 19 = .ok (.iconst (-1), 1) := by decide +kernel
theorem dX1_takeAlert_20 : decode cX1_takeAlert 20 = .ok (.ireturn, 1) := by decide +kernel
theorem dX1_takeAlert_21 : decode cX1_takeAlert 21 = .ok (.iconst 0, 1) := by decide +kernel
theorem dX1_takeAlert_22 : decode cX1_takeAlert 22 = .ok (.istore_n 3, 1) := by decide +kernel
theorem dX1_takeAlert_23 : decode cX1_takeAlert 23 = .ok (.iload_n 3, 1) := by decide +kernel
theorem dX1_takeAlert_24 : decode cX1_takeAlert 24 = .ok (.aload_n 0, 1) := by decide +kernel
theorem dX1_takeAlert_25 : decode cX1_takeAlert 25 = .ok (.getfield 20, 3) := by decide +kernel
theorem dX1_takeAlert_28 : decode cX1_takeAlert 28 = .ok (.arraylength, 1) := by decide +kernel
theorem dX1_takeAlert_29 : decode cX1_takeAlert 29 = .ok (.if_icmp .ge 80, 3) := by decide +kernel
theorem dX1_takeAlert_32 : decode cX1_takeAlert 32 = .ok (.aload_n 0, 1) := by decide +kernel
theorem dX1_takeAlert_33 : decode cX1_takeAlert 33 = .ok (.getfield 20, 3) := by decide +kernel
theorem dX1_takeAlert_36 : decode cX1_takeAlert 36 = .ok (.iload_n 3, 1) := by decide +kernel
theorem dX1_takeAlert_37 : decode cX1_takeAlert 37 = .ok (.aaload, 1) := by decide +kernel
theorem dX1_takeAlert_38 : decode cX1_takeAlert 38 = .ok (.astore 4, 2) := by decide +kernel
theorem dX1_takeAlert_40 : decode cX1_takeAlert 40 = .ok (.aload 4, 2) := by decide +kernel
theorem dX1_takeAlert_42 : decode cX1_takeAlert 42 = .ok (.getfield 52, 3) := by decide +kernel
theorem dX1_takeAlert_45 : decode cX1_takeAlert 45 = .ok (.ifCond .eq 58, 3) := by decide +kernel
theorem dX1_takeAlert_48 : decode cX1_takeAlert 48 = .ok (.aload 4, 2) := by decide +kernel
theorem dX1_takeAlert_50 : decode cX1_takeAlert 50 = .ok (.getfield 73, 3) := by decide +kernel
theorem dX1_takeAlert_53 : decode cX1_takeAlert 53 = .ok (.iload_n 1, 1) := by decide +kernel
theorem dX1_takeAlert_54 : decode cX1_takeAlert 54 = .ok (.if_icmp .ne 49, 3) := by decide +kernel
theorem dX1_takeAlert_57 : decode cX1_takeAlert 57 = .ok (.aload_n 0, 1) := by decide +kernel
theorem dX1_takeAlert_58 : decode cX1_takeAlert 58 = .ok (.getfield 49, 3) := by decide +kernel
theorem dX1_takeAlert_61 : decode cX1_takeAlert 61 = .ok (.aload 4, 2) := by decide +kernel
theorem dX1_takeAlert_63 : decode cX1_takeAlert 63 = .ok (.getfield 76, 3) := by decide +kernel
theorem dX1_takeAlert_66 : decode cX1_takeAlert 66 = .ok (.isub, 1) := by decide +kernel
theorem dX1_takeAlert_67 : decode cX1_takeAlert 67 = .ok (.aload_n 0, 1) := by decide +kernel
theorem dX1_takeAlert_68 : decode cX1_takeAlert 68 = .ok (.getfield 35, 3) := by decide +kernel
theorem dX1_takeAlert_71 : decode cX1_takeAlert 71 = .ok (.if_icmp .gt 32, 3) := by decide +kernel
theorem dX1_takeAlert_74 : decode cX1_takeAlert 74 = .ok (.aload_n 0, 1) := by decide +kernel
theorem dX1_takeAlert_75 : decode cX1_takeAlert 75 = .ok (.aload 4, 2) := by decide +kernel
theorem dX1_takeAlert_77 : decode cX1_takeAlert 77 = .ok (.iload_n 2, 1) := by decide +kernel
theorem dX1_takeAlert_78 : decode cX1_takeAlert 78 = .ok (.invokevirtual 79, 3) := by decide +kernel
theorem dX1_takeAlert_81 : decode cX1_takeAlert 81 = .ok (.ifCond .eq 20, 3) := by decide +kernel
theorem dX1_takeAlert_84 : decode cX1_takeAlert 84 = .ok (.aload_n 0, 1) := by decide +kernel
theorem dX1_takeAlert_85 : decode cX1_takeAlert 85 = .ok (.aload 4, 2) := by decide +kernel
theorem dX1_takeAlert_87 : decode cX1_takeAlert 87 = .ok (.aload_n 0, 1) := by decide +kernel
theorem dX1_takeAlert_88 : decode cX1_takeAlert 88 = .ok (.getfield 12, 3) := by decide +kernel
theorem dX1_takeAlert_91 : decode cX1_takeAlert 91 = .ok (.aload_n 0, 1) := by decide +kernel
theorem dX1_takeAlert_92 : decode cX1_takeAlert 92 = .ok (.getfield 49, 3) := by decide +kernel
theorem dX1_takeAlert_95 : decode cX1_takeAlert 95 = .ok (.invokevirtual 83, 3) := by decide +kernel
theorem dX1_takeAlert_98 : decode cX1_takeAlert 98 = .ok (.invokevirtual 87, 3) := by decide +kernel
theorem dX1_takeAlert_101 : decode cX1_takeAlert 101 = .ok (.iload_n 3, 1) := by decide +kernel
theorem dX1_takeAlert_102 : decode cX1_takeAlert 102 = .ok (.ireturn, 1) := by decide +kernel
theorem dX1_takeAlert_103 : decode cX1_takeAlert 103 = .ok (.iinc 3 1, 3) := by decide +kernel
theorem dX1_takeAlert_106 : decode cX1_takeAlert 106 = .ok (.goto (-83), 3) := by decide +kernel
theorem dX1_takeAlert_109 : decode cX1_takeAlert 109 = .ok (.iconst 0, 1) := by decide +kernel
theorem dX1_takeAlert_110 : decode cX1_takeAlert 110 = .ok (.istore_n 3, 1) := by decide +kernel
theorem dX1_takeAlert_111 : decode cX1_takeAlert 111 = .ok (.iload_n 3, 1) := by decide +kernel
theorem dX1_takeAlert_112 : decode cX1_takeAlert 112 = .ok (.aload_n 0, 1) := by decide +kernel
theorem dX1_takeAlert_113 : decode cX1_takeAlert 113 = .ok (.getfield 20, 3) := by decide +kernel
theorem dX1_takeAlert_116 : decode cX1_takeAlert 116 = .ok (.arraylength, 1) := by decide +kernel
theorem dX1_takeAlert_117 : decode cX1_takeAlert 117 = .ok (.if_icmp .ge 72, 3) := by decide +kernel
theorem dX1_takeAlert_120 : decode cX1_takeAlert 120 = .ok (.aload_n 0, 1) := by decide +kernel
theorem dX1_takeAlert_121 : decode cX1_takeAlert 121 = .ok (.getfield 20, 3) := by decide +kernel
theorem dX1_takeAlert_124 : decode cX1_takeAlert 124 = .ok (.iload_n 3, 1) := by decide +kernel
theorem dX1_takeAlert_125 : decode cX1_takeAlert 125 = .ok (.aaload, 1) := by decide +kernel
theorem dX1_takeAlert_126 : decode cX1_takeAlert 126 = .ok (.getfield 52, 3) := by decide +kernel
theorem dX1_takeAlert_129 : decode cX1_takeAlert 129 = .ok (.ifCond .ne 54, 3) := by decide +kernel
theorem dX1_takeAlert_132 : decode cX1_takeAlert 132 = .ok (.aload_n 0, 1) := by decide +kernel
theorem dX1_takeAlert_133 : decode cX1_takeAlert 133 = .ok (.getfield 20, 3) := by decide +kernel
theorem dX1_takeAlert_136 : decode cX1_takeAlert 136 = .ok (.iload_n 3, 1) := by decide +kernel
theorem dX1_takeAlert_137 : decode cX1_takeAlert 137 = .ok (.aaload, 1) := by decide +kernel
theorem dX1_takeAlert_138 : decode cX1_takeAlert 138 = .ok (.iload_n 1, 1) := by decide +kernel
theorem dX1_takeAlert_139 : decode cX1_takeAlert 139 = .ok (.iload_n 2, 1) := by decide +kernel
theorem dX1_takeAlert_140 : decode cX1_takeAlert 140 = .ok (.aload_n 0, 1) := by decide +kernel
theorem dX1_takeAlert_141 : decode cX1_takeAlert 141 = .ok (.getfield 49, 3) := by decide +kernel
theorem dX1_takeAlert_144 : decode cX1_takeAlert 144 = .ok (.invokevirtual 91, 3) := by decide +kernel
theorem dX1_takeAlert_147 : decode cX1_takeAlert 147 = .ok (.aload_n 0, 1) := by decide +kernel
theorem dX1_takeAlert_148 : decode cX1_takeAlert 148 = .ok (.getfield 27, 3) := by decide +kernel
theorem dX1_takeAlert_151 : decode cX1_takeAlert 151 = .ok (.dup, 1) := by decide +kernel
theorem dX1_takeAlert_152 : decode cX1_takeAlert 152 = .ok (.getfield 95, 3) := by decide +kernel
theorem dX1_takeAlert_155 : decode cX1_takeAlert 155 = .ok (.iconst 1, 1) := by decide +kernel
theorem dX1_takeAlert_156 : decode cX1_takeAlert 156 = .ok (.iadd, 1) := by decide +kernel
theorem dX1_takeAlert_157 : decode cX1_takeAlert 157 = .ok (.putfield 95, 3) := by decide +kernel
theorem dX1_takeAlert_160 : decode cX1_takeAlert 160 = .ok (.aload_n 0, 1) := by decide +kernel
theorem dX1_takeAlert_161 : decode cX1_takeAlert 161 = .ok (.aload_n 0, 1) := by decide +kernel
theorem dX1_takeAlert_162 : decode cX1_takeAlert 162 = .ok (.getfield 20, 3) := by decide +kernel
theorem dX1_takeAlert_165 : decode cX1_takeAlert 165 = .ok (.iload_n 3, 1) := by decide +kernel
theorem dX1_takeAlert_166 : decode cX1_takeAlert 166 = .ok (.aaload, 1) := by decide +kernel
theorem dX1_takeAlert_167 : decode cX1_takeAlert 167 = .ok (.aload_n 0, 1) := by decide +kernel
theorem dX1_takeAlert_168 : decode cX1_takeAlert 168 = .ok (.getfield 12, 3) := by decide +kernel
theorem dX1_takeAlert_171 : decode cX1_takeAlert 171 = .ok (.aload_n 0, 1) := by decide +kernel
theorem dX1_takeAlert_172 : decode cX1_takeAlert 172 = .ok (.getfield 49, 3) := by decide +kernel
theorem dX1_takeAlert_175 : decode cX1_takeAlert 175 = .ok (.invokevirtual 83, 3) := by decide +kernel
theorem dX1_takeAlert_178 : decode cX1_takeAlert 178 = .ok (.invokevirtual 87, 3) := by decide +kernel
theorem dX1_takeAlert_181 : decode cX1_takeAlert 181 = .ok (.iload_n 3, 1) := by decide +kernel
theorem dX1_takeAlert_182 : decode cX1_takeAlert 182 = .ok (.ireturn, 1) := by decide +kernel
theorem dX1_takeAlert_183 : decode cX1_takeAlert 183 = .ok (.iinc 3 1, 3) := by decide +kernel
theorem dX1_takeAlert_186 : decode cX1_takeAlert 186 = .ok (.goto (-75), 3) := by decide +kernel
theorem dX1_takeAlert_189 : decode cX1_takeAlert 189 = .ok (.bipush (-3), 2) := by decide +kernel
theorem dX1_takeAlert_191 : decode cX1_takeAlert 191 = .ok (.ireturn, 1) := by decide +kernel
theorem dX1_fold_0 : decode cX1_fold 0 = .ok (.aload_n 1, 1) := by decide +kernel
theorem dX1_fold_1 : decode cX1_fold 1 = .ok (.dup, 1) := by decide +kernel
theorem dX1_fold_2 : decode cX1_fold 2 = .ok (.getfield 98, 3) := by decide +kernel
theorem dX1_fold_5 : decode cX1_fold 5 = .ok (.iconst 1, 1) := by decide +kernel
theorem dX1_fold_6 : decode cX1_fold 6 = .ok (.iadd, 1) := by decide +kernel
theorem dX1_fold_7 : decode cX1_fold 7 = .ok (.putfield 98, 3) := by decide +kernel
theorem dX1_fold_10 : decode cX1_fold 10 = .ok (.aload_n 1, 1) := by decide +kernel
theorem dX1_fold_11 : decode cX1_fold 11 = .ok (.aload_n 0, 1) := by decide +kernel
theorem dX1_fold_12 : decode cX1_fold 12 = .ok (.getfield 49, 3) := by decide +kernel
theorem dX1_fold_15 : decode cX1_fold 15 = .ok (.putfield 76, 3) := by decide +kernel
theorem dX1_fold_18 : decode cX1_fold 18 = .ok (.aload_n 0, 1) := by decide +kernel
theorem dX1_fold_19 : decode cX1_fold 19 = .ok (.getfield 27, 3) := by decide +kernel
theorem dX1_fold_22 : decode cX1_fold 22 = .ok (.dup, 1) := by decide +kernel
theorem dX1_fold_23 : decode cX1_fold 23 = .ok (.getfield 95, 3) := by decide +kernel
theorem dX1_fold_26 : decode cX1_fold 26 = .ok (.iconst 1, 1) := by decide +kernel
theorem dX1_fold_27 : decode cX1_fold 27 = .ok (.iadd, 1) := by decide +kernel
theorem dX1_fold_28 : decode cX1_fold 28 = .ok (.putfield 95, 3) := by decide +kernel
theorem dX1_fold_31 : decode cX1_fold 31 = .ok (.aload_n 0, 1) := by decide +kernel
theorem dX1_fold_32 : decode cX1_fold 32 = .ok (.getfield 27, 3) := by decide +kernel
theorem dX1_fold_35 : decode cX1_fold 35 = .ok (.dup, 1) := by decide +kernel
theorem dX1_fold_36 : decode cX1_fold 36 = .ok (.getfield 99, 3) := by decide +kernel
theorem dX1_fold_39 : decode cX1_fold 39 = .ok (.iconst 1, 1) := by decide +kernel
theorem dX1_fold_40 : decode cX1_fold 40 = .ok (.iadd, 1) := by decide +kernel
theorem dX1_fold_41 : decode cX1_fold 41 = .ok (.putfield 99, 3) := by decide +kernel
theorem dX1_fold_44 : decode cX1_fold 44 = .ok (.iload_n 2, 1) := by decide +kernel
theorem dX1_fold_45 : decode cX1_fold 45 = .ok (.aload_n 1, 1) := by decide +kernel
theorem dX1_fold_46 : decode cX1_fold 46 = .ok (.getfield 102, 3) := by decide +kernel
theorem dX1_fold_49 : decode cX1_fold 49 = .ok (.if_icmp .gt 5, 3) := by decide +kernel
theorem dX1_fold_52 : decode cX1_fold 52 = .ok (.iconst 0, 1) := by decide +kernel
theorem dX1_fold_53 : decode cX1_fold 53 = .ok (.ireturn, 1) := by decide +kernel
theorem dX1_fold_54 : decode cX1_fold 54 = .ok (.aload_n 1, 1) := by decide +kernel
theorem dX1_fold_55 : decode cX1_fold 55 = .ok (.iload_n 2, 1) := by decide +kernel
theorem dX1_fold_56 : decode cX1_fold 56 = .ok (.putfield 102, 3) := by decide +kernel
theorem dX1_fold_59 : decode cX1_fold 59 = .ok (.aload_n 1, 1) := by decide +kernel
theorem dX1_fold_60 : decode cX1_fold 60 = .ok (.getfield 59, 3) := by decide +kernel
theorem dX1_fold_63 : decode cX1_fold 63 = .ok (.iconst (-1), 1) := by decide +kernel
theorem dX1_fold_64 : decode cX1_fold 64 = .ok (.if_icmp .ne 7, 3) := by decide +kernel
theorem dX1_fold_67 : decode cX1_fold 67 = .ok (.iconst 1, 1) := by decide +kernel
theorem dX1_fold_68 : decode cX1_fold 68 = .ok (.goto 4, 3) := by decide +kernel
theorem dX1_fold_71 : decode cX1_fold 71 = .ok (.iconst 0, 1) := by decide +kernel
theorem dX1_fold_72 : decode cX1_fold 72 = .ok (.ireturn, 1) := by decide +kernel
theorem dX1_page_0 : decode cX1_page 0 = .ok (.aload_n 1, 1) := by decide +kernel
theorem dX1_page_1 : decode cX1_page 1 = .ok (.iconst 0, 1) := by decide +kernel
theorem dX1_page_2 : decode cX1_page 2 = .ok (.putfield 56, 3) := by decide +kernel
theorem dX1_page_5 : decode cX1_page 5 = .ok (.aload_n 1, 1) := by decide +kernel
theorem dX1_page_6 : decode cX1_page 6 = .ok (.iconst (-1), 1) := by decide +kernel
theorem dX1_page_7 : decode cX1_page 7 = .ok (.putfield 59, 3) := by decide +kernel
theorem dX1_page_10 : decode cX1_page 10 = .ok (.aload_n 1, 1) := by decide +kernel
theorem dX1_page_11 : decode cX1_page 11 = .ok (.iload_n 2, 1) := by decide +kernel
theorem dX1_page_12 : decode cX1_page 12 = .ok (.putfield 105, 3) := by decide +kernel
theorem dX1_page_15 : decode cX1_page 15 = .ok (.aload_n 0, 1) := by decide +kernel
theorem dX1_page_16 : decode cX1_page 16 = .ok (.getfield 12, 3) := by decide +kernel
theorem dX1_page_19 : decode cX1_page 19 = .ok (.iload_n 2, 1) := by decide +kernel
theorem dX1_page_20 : decode cX1_page 20 = .ok (.aload_n 0, 1) := by decide +kernel
theorem dX1_page_21 : decode cX1_page 21 = .ok (.getfield 49, 3) := by decide +kernel
theorem dX1_page_24 : decode cX1_page 24 = .ok (.aload_n 1, 1) := by decide +kernel
theorem dX1_page_25 : decode cX1_page 25 = .ok (.getfield 108, 3) := by decide +kernel
theorem dX1_page_28 : decode cX1_page 28 = .ok (.invokevirtual 111, 3) := by decide +kernel
theorem dX1_page_31 : decode cX1_page 31 = .ok (.istore_n 3, 1) := by decide +kernel
theorem dX1_page_32 : decode cX1_page 32 = .ok (.iload_n 3, 1) := by decide +kernel
theorem dX1_page_33 : decode cX1_page 33 = .ok (.ifCond .lt 15, 3) := by decide +kernel
theorem dX1_page_36 : decode cX1_page 36 = .ok (.iload_n 3, 1) := by decide +kernel
theorem dX1_page_37 : decode cX1_page 37 = .ok (.aload_n 0, 1) := by decide +kernel
theorem dX1_page_38 : decode cX1_page 38 = .ok (.getfield 12, 3) := by decide +kernel
theorem dX1_page_41 : decode cX1_page 41 = .ok (.getfield 115, 3) := by decide +kernel
theorem dX1_page_44 : decode cX1_page 44 = .ok (.arraylength, 1) := by decide +kernel
theorem dX1_page_45 : decode cX1_page 45 = .ok (.if_icmp .lt 4, 3) := by decide +kernel
theorem dX1_page_48 : decode cX1_page 48 = .ok (.return_, 1) := by decide +kernel
theorem dX1_page_49 : decode cX1_page 49 = .ok (.aload_n 0, 1) := by decide +kernel
theorem dX1_page_50 : decode cX1_page 50 = .ok (.getfield 12, 3) := by decide +kernel
theorem dX1_page_53 : decode cX1_page 53 = .ok (.getfield 115, 3) := by decide +kernel
theorem dX1_page_56 : decode cX1_page 56 = .ok (.iload_n 3, 1) := by decide +kernel
theorem dX1_page_57 : decode cX1_page 57 = .ok (.aaload, 1) := by decide +kernel
theorem dX1_page_58 : decode cX1_page 58 = .ok (.astore 4, 2) := by decide +kernel
theorem dX1_page_60 : decode cX1_page 60 = .ok (.aload 4, 2) := by decide +kernel
theorem dX1_page_62 : decode cX1_page 62 = .ok (.aload_n 1, 1) := by decide +kernel
theorem dX1_page_63 : decode cX1_page 63 = .ok (.getfield 73, 3) := by decide +kernel
theorem dX1_page_66 : decode cX1_page 66 = .ok (.aload_n 1, 1) := by decide +kernel
theorem dX1_page_67 : decode cX1_page 67 = .ok (.getfield 102, 3) := by decide +kernel
theorem dX1_page_70 : decode cX1_page 70 = .ok (.aload_n 0, 1) := by decide +kernel
theorem dX1_page_71 : decode cX1_page 71 = .ok (.getfield 49, 3) := by decide +kernel
theorem dX1_page_74 : decode cX1_page 74 = .ok (.invokestatic 119, 3) := by decide +kernel
theorem dX1_page_77 : decode cX1_page 77 = .ok (.invokevirtual 122, 3) := by decide +kernel
theorem dX1_page_80 : decode cX1_page 80 = .ok (.ifCond .eq 4, 3) := by decide +kernel
theorem dX1_page_83 : decode cX1_page 83 = .ok (.return_, 1) := by decide +kernel
theorem dX1_page_84 : decode cX1_page 84 = .ok (.aload_n 1, 1) := by decide +kernel
theorem dX1_page_85 : decode cX1_page 85 = .ok (.iload_n 3, 1) := by decide +kernel
theorem dX1_page_86 : decode cX1_page 86 = .ok (.putfield 59, 3) := by decide +kernel
theorem dX1_page_89 : decode cX1_page 89 = .ok (.aload_n 1, 1) := by decide +kernel
theorem dX1_page_90 : decode cX1_page 90 = .ok (.aload_n 0, 1) := by decide +kernel
theorem dX1_page_91 : decode cX1_page 91 = .ok (.getfield 49, 3) := by decide +kernel
theorem dX1_page_94 : decode cX1_page 94 = .ok (.putfield 128, 3) := by decide +kernel
theorem dX1_page_97 : decode cX1_page 97 = .ok (.aload 4, 2) := by decide +kernel
theorem dX1_page_99 : decode cX1_page 99 = .ok (.dup, 1) := by decide +kernel
theorem dX1_page_100 : decode cX1_page 100 = .ok (.getfield 131, 3) := by decide +kernel
theorem dX1_page_103 : decode cX1_page 103 = .ok (.iconst 1, 1) := by decide +kernel
theorem dX1_page_104 : decode cX1_page 104 = .ok (.iadd, 1) := by decide +kernel
theorem dX1_page_105 : decode cX1_page 105 = .ok (.putfield 131, 3) := by decide +kernel
theorem dX1_page_108 : decode cX1_page 108 = .ok (.aload_n 0, 1) := by decide +kernel
theorem dX1_page_109 : decode cX1_page 109 = .ok (.getfield 27, 3) := by decide +kernel
theorem dX1_page_112 : decode cX1_page 112 = .ok (.dup, 1) := by decide +kernel
theorem dX1_page_113 : decode cX1_page 113 = .ok (.getfield 134, 3) := by decide +kernel
theorem dX1_page_116 : decode cX1_page 116 = .ok (.iconst 1, 1) := by decide +kernel
theorem dX1_page_117 : decode cX1_page 117 = .ok (.iadd, 1) := by decide +kernel
theorem dX1_page_118 : decode cX1_page 118 = .ok (.putfield 134, 3) := by decide +kernel
theorem dX1_page_121 : decode cX1_page 121 = .ok (.return_, 1) := by decide +kernel
theorem dX1_takeAcknowledgement_0 : decode cX1_takeAcknowledgement 0 = .ok (.aload_n 0, 1) := by decide +kernel
theorem dX1_takeAcknowledgement_1 : decode cX1_takeAcknowledgement 1 = .ok (.iload_n 1, 1) := by decide +kernel
theorem dX1_takeAcknowledgement_2 : decode cX1_takeAcknowledgement 2 = .ok (.invokevirtual 135, 3) := by decide +kernel
theorem dX1_takeAcknowledgement_5 : decode cX1_takeAcknowledgement 5 = .ok (.ifCond .ne 5, 3) := by decide +kernel
theorem dX1_takeAcknowledgement_8 : decode cX1_takeAcknowledgement 8 = .ok (.iconst (-1), 1) := by decide +kernel
theorem dX1_takeAcknowledgement_9 : decode cX1_takeAcknowledgement 9 = .ok (.ireturn, 1) := by decide +kernel
theorem dX1_takeAcknowledgement_10 : decode cX1_takeAcknowledgement 10 = .ok (.aload_n 0, 1) := by decide +kernel
theorem dX1_takeAcknowledgement_11 : decode cX1_takeAcknowledgement 11 = .ok (.getfield 20, 3) := by decide +kernel
theorem dX1_takeAcknowledgement_14 : decode cX1_takeAcknowledgement 14 = .ok (.iload_n 1, 1) := by decide +kernel
theorem dX1_takeAcknowledgement_15 : decode cX1_takeAcknowledgement 15 = .ok (.aaload, 1) := by decide +kernel
theorem dX1_takeAcknowledgement_16 : decode cX1_takeAcknowledgement 16 = .ok (.astore_n 2, 1) := by decide +kernel
theorem dX1_takeAcknowledgement_17 : decode cX1_takeAcknowledgement 17 = .ok (.aload_n 2, 1) := by decide +kernel
theorem dX1_takeAcknowledgement_18 : decode cX1_takeAcknowledgement 18 = .ok (.getfield 59, 3) := by decide +kernel
theorem dX1_takeAcknowledgement_21 : decode cX1_takeAcknowledgement 21 = .ok (.iconst (-1), 1) := by decide +kernel
theorem dX1_takeAcknowledgement_22 : decode cX1_takeAcknowledgement 22 = .ok (.if_icmp .eq 10, 3) := by decide +kernel
theorem dX1_takeAcknowledgement_25 : decode cX1_takeAcknowledgement 25 = .ok (.aload_n 2, 1) := by decide +kernel
theorem dX1_takeAcknowledgement_26 : decode cX1_takeAcknowledgement 26 = .ok (.getfield 56, 3) := by decide +kernel
theorem dX1_takeAcknowledgement_29 : decode cX1_takeAcknowledgement 29 = .ok (.ifCond .eq 6, 3) := by decide +kernel
theorem dX1_takeAcknowledgement_32 : decode cX1_takeAcknowledgement 32 = .ok (.bipush (-2), 2) := by decide +kernel
theorem dX1_takeAcknowledgement_34 : decode cX1_takeAcknowledgement 34 = .ok (.ireturn, 1) := by decide +kernel
theorem dX1_takeAcknowledgement_35 : decode cX1_takeAcknowledgement 35 = .ok (.aload_n 0, 1) := by decide +kernel
theorem dX1_takeAcknowledgement_36 : decode cX1_takeAcknowledgement 36 = .ok (.getfield 49, 3) := by decide +kernel
theorem dX1_takeAcknowledgement_39 : decode cX1_takeAcknowledgement 39 = .ok (.aload_n 2, 1) := by decide +kernel
theorem dX1_takeAcknowledgement_40 : decode cX1_takeAcknowledgement 40 = .ok (.getfield 128, 3) := by decide +kernel
theorem dX1_takeAcknowledgement_43 : decode cX1_takeAcknowledgement 43 = .ok (.isub, 1) := by decide +kernel
theorem dX1_takeAcknowledgement_44 : decode cX1_takeAcknowledgement 44 = .ok (.istore_n 3, 1) := by decide +kernel
theorem dX1_takeAcknowledgement_45 : decode cX1_takeAcknowledgement 45 = .ok (.aload_n 2, 1) := by decide +kernel
theorem dX1_takeAcknowledgement_46 : decode cX1_takeAcknowledgement 46 = .ok (.iconst 1, 1) := by decide +kernel
theorem dX1_takeAcknowledgement_47 : decode cX1_takeAcknowledgement 47 = .ok (.putfield 56, 3) := by decide +kernel
theorem dX1_takeAcknowledgement_50 : decode cX1_takeAcknowledgement 50 = .ok (.aload_n 0, 1) := by decide +kernel
theorem dX1_takeAcknowledgement_51 : decode cX1_takeAcknowledgement 51 = .ok (.getfield 27, 3) := by decide +kernel
theorem dX1_takeAcknowledgement_54 : decode cX1_takeAcknowledgement 54 = .ok (.dup, 1) := by decide +kernel
theorem dX1_takeAcknowledgement_55 : decode cX1_takeAcknowledgement 55 = .ok (.getfield 138, 3) := by decide +kernel
theorem dX1_takeAcknowledgement_58 : decode cX1_takeAcknowledgement 58 = .ok (.iconst 1, 1) := by decide +kernel
theorem dX1_takeAcknowledgement_59 : decode cX1_takeAcknowledgement 59 = .ok (.iadd, 1) := by decide +kernel
theorem dX1_takeAcknowledgement_60 : decode cX1_takeAcknowledgement 60 = .ok (.putfield 138, 3) := by decide +kernel
theorem dX1_takeAcknowledgement_63 : decode cX1_takeAcknowledgement 63 = .ok (.aload_n 0, 1) := by decide +kernel
theorem dX1_takeAcknowledgement_64 : decode cX1_takeAcknowledgement 64 = .ok (.getfield 27, 3) := by decide +kernel
theorem dX1_takeAcknowledgement_67 : decode cX1_takeAcknowledgement 67 = .ok (.dup, 1) := by decide +kernel
theorem dX1_takeAcknowledgement_68 : decode cX1_takeAcknowledgement 68 = .ok (.getfield 141, 3) := by decide +kernel
theorem dX1_takeAcknowledgement_71 : decode cX1_takeAcknowledgement 71 = .ok (.iload_n 3, 1) := by decide +kernel
theorem dX1_takeAcknowledgement_72 : decode cX1_takeAcknowledgement 72 = .ok (.iadd, 1) := by decide +kernel
theorem dX1_takeAcknowledgement_73 : decode cX1_takeAcknowledgement 73 = .ok (.putfield 141, 3) := by decide +kernel
theorem dX1_takeAcknowledgement_76 : decode cX1_takeAcknowledgement 76 = .ok (.iload_n 3, 1) := by decide +kernel
theorem dX1_takeAcknowledgement_77 : decode cX1_takeAcknowledgement 77 = .ok (.ireturn, 1) := by decide +kernel
theorem dX1_close_0 : decode cX1_close 0 = .ok (.aload_n 0, 1) := by decide +kernel
theorem dX1_close_1 : decode cX1_close 1 = .ok (.iload_n 1, 1) := by decide +kernel
theorem dX1_close_2 : decode cX1_close 2 = .ok (.invokevirtual 135, 3) := by decide +kernel
theorem dX1_close_5 : decode cX1_close 5 = .ok (.ifCond .ne 5, 3) := by decide +kernel
theorem dX1_close_8 : decode cX1_close 8 = .ok (.iconst (-1), 1) := by decide +kernel
theorem dX1_close_9 : decode cX1_close 9 = .ok (.ireturn, 1) := by decide +kernel
theorem dX1_close_10 : decode cX1_close 10 = .ok (.aload_n 0, 1) := by decide +kernel
theorem dX1_close_11 : decode cX1_close 11 = .ok (.getfield 20, 3) := by decide +kernel
theorem dX1_close_14 : decode cX1_close 14 = .ok (.iload_n 1, 1) := by decide +kernel
theorem dX1_close_15 : decode cX1_close 15 = .ok (.aaload, 1) := by decide +kernel
theorem dX1_close_16 : decode cX1_close 16 = .ok (.astore_n 2, 1) := by decide +kernel
theorem dX1_close_17 : decode cX1_close 17 = .ok (.aload_n 2, 1) := by decide +kernel
theorem dX1_close_18 : decode cX1_close 18 = .ok (.iconst 0, 1) := by decide +kernel
theorem dX1_close_19 : decode cX1_close 19 = .ok (.putfield 52, 3) := by decide +kernel
theorem dX1_close_22 : decode cX1_close 22 = .ok (.aload_n 0, 1) := by decide +kernel
theorem dX1_close_23 : decode cX1_close 23 = .ok (.getfield 27, 3) := by decide +kernel
theorem dX1_close_26 : decode cX1_close 26 = .ok (.dup, 1) := by decide +kernel
theorem dX1_close_27 : decode cX1_close 27 = .ok (.getfield 144, 3) := by decide +kernel
theorem dX1_close_30 : decode cX1_close 30 = .ok (.iconst 1, 1) := by decide +kernel
theorem dX1_close_31 : decode cX1_close 31 = .ok (.iadd, 1) := by decide +kernel
theorem dX1_close_32 : decode cX1_close 32 = .ok (.putfield 144, 3) := by decide +kernel
theorem dX1_close_35 : decode cX1_close 35 = .ok (.aload_n 0, 1) := by decide +kernel
theorem dX1_close_36 : decode cX1_close 36 = .ok (.getfield 12, 3) := by decide +kernel
theorem dX1_close_39 : decode cX1_close 39 = .ok (.aload_n 2, 1) := by decide +kernel
theorem dX1_close_40 : decode cX1_close 40 = .ok (.getfield 59, 3) := by decide +kernel
theorem dX1_close_43 : decode cX1_close 43 = .ok (.invokevirtual 66, 3) := by decide +kernel
theorem dX1_close_46 : decode cX1_close 46 = .ok (.ifCond .eq 24, 3) := by decide +kernel
theorem dX1_close_49 : decode cX1_close 49 = .ok (.aload_n 0, 1) := by decide +kernel
theorem dX1_close_50 : decode cX1_close 50 = .ok (.getfield 12, 3) := by decide +kernel
theorem dX1_close_53 : decode cX1_close 53 = .ok (.getfield 115, 3) := by decide +kernel
theorem dX1_close_56 : decode cX1_close 56 = .ok (.aload_n 2, 1) := by decide +kernel
theorem dX1_close_57 : decode cX1_close 57 = .ok (.getfield 59, 3) := by decide +kernel
theorem dX1_close_60 : decode cX1_close 60 = .ok (.aaload, 1) := by decide +kernel
theorem dX1_close_61 : decode cX1_close 61 = .ok (.dup, 1) := by decide +kernel
theorem dX1_close_62 : decode cX1_close 62 = .ok (.getfield 147, 3) := by decide +kernel
theorem dX1_close_65 : decode cX1_close 65 = .ok (.iconst 1, 1) := by decide +kernel
theorem dX1_close_66 : decode cX1_close 66 = .ok (.iadd, 1) := by decide +kernel
theorem dX1_close_67 : decode cX1_close 67 = .ok (.putfield 147, 3) := by decide +kernel
theorem dX1_close_70 : decode cX1_close 70 = .ok (.aload_n 0, 1) := by decide +kernel
theorem dX1_close_71 : decode cX1_close 71 = .ok (.getfield 49, 3) := by decide +kernel
theorem dX1_close_74 : decode cX1_close 74 = .ok (.aload_n 2, 1) := by decide +kernel
theorem dX1_close_75 : decode cX1_close 75 = .ok (.getfield 148, 3) := by decide +kernel
theorem dX1_close_78 : decode cX1_close 78 = .ok (.isub, 1) := by decide +kernel
theorem dX1_close_79 : decode cX1_close 79 = .ok (.ireturn, 1) := by decide +kernel
theorem dX1_letPass_0 : decode cX1_letPass 0 = .ok (.iload_n 1, 1) := by decide +kernel
theorem dX1_letPass_1 : decode cX1_letPass 1 = .ok (.iconst 1, 1) := by decide +kernel
theorem dX1_letPass_2 : decode cX1_letPass 2 = .ok (.if_icmp .lt 10, 3) := by decide +kernel
theorem dX1_letPass_5 : decode cX1_letPass 5 = .ok (.iload_n 1, 1) := by decide +kernel
theorem dX1_letPass_6 : decode cX1_letPass 6 = .ok (.sipush 600, 3) := by decide +kernel
theorem dX1_letPass_9 : decode cX1_letPass 9 = .ok (.if_icmp .le 5, 3) := by decide +kernel
theorem dX1_letPass_12 : decode cX1_letPass 12 = .ok (.iconst (-1), 1) := by decide +kernel
theorem dX1_letPass_13 : decode cX1_letPass 13 = .ok (.ireturn, 1) := by decide +kernel
theorem dX1_letPass_14 : decode cX1_letPass 14 = .ok (.aload_n 0, 1) := by decide +kernel
theorem dX1_letPass_15 : decode cX1_letPass 15 = .ok (.getfield 49, 3) := by decide +kernel
theorem dX1_letPass_18 : decode cX1_letPass 18 = .ok (.iload_n 1, 1) := by decide +kernel
theorem dX1_letPass_19 : decode cX1_letPass 19 = .ok (.iadd, 1) := by decide +kernel
theorem dX1_letPass_20 : decode cX1_letPass 20 = .ok (.sipush 30000, 3) := by decide +kernel
theorem dX1_letPass_23 : decode cX1_letPass 23 = .ok (.if_icmp .le 6, 3) := by decide +kernel
theorem dX1_letPass_26 : decode cX1_letPass 26 = .ok (.bipush (-3), 2) := by decide +kernel
theorem dX1_letPass_28 : decode cX1_letPass 28 = .ok (.ireturn, 1) := by decide +kernel
theorem dX1_letPass_29 : decode cX1_letPass 29 = .ok (.aload_n 0, 1) := by decide +kernel
theorem dX1_letPass_30 : decode cX1_letPass 30 = .ok (.getfield 27, 3) := by decide +kernel
theorem dX1_letPass_33 : decode cX1_letPass 33 = .ok (.getfield 134, 3) := by decide +kernel
theorem dX1_letPass_36 : decode cX1_letPass 36 = .ok (.istore_n 2, 1) := by decide +kernel
theorem dX1_letPass_37 : decode cX1_letPass 37 = .ok (.iconst 0, 1) := by decide +kernel
theorem dX1_letPass_38 : decode cX1_letPass 38 = .ok (.istore_n 3, 1) := by decide +kernel
theorem dX1_letPass_39 : decode cX1_letPass 39 = .ok (.iload_n 3, 1) := by decide +kernel
theorem dX1_letPass_40 : decode cX1_letPass 40 = .ok (.iload_n 1, 1) := by decide +kernel
theorem dX1_letPass_41 : decode cX1_letPass 41 = .ok (.if_icmp .ge 93, 3) := by decide +kernel
theorem dX1_letPass_44 : decode cX1_letPass 44 = .ok (.aload_n 0, 1) := by decide +kernel
theorem dX1_letPass_45 : decode cX1_letPass 45 = .ok (.dup, 1) := by decide +kernel
theorem dX1_letPass_46 : decode cX1_letPass 46 = .ok (.getfield 49, 3) := by decide +kernel
theorem dX1_letPass_49 : decode cX1_letPass 49 = .ok (.iconst 1, 1) := by decide +kernel
theorem dX1_letPass_50 : decode cX1_letPass 50 = .ok (.iadd, 1) := by decide +kernel
theorem dX1_letPass_51 : decode cX1_letPass 51 = .ok (.putfield 49, 3) := by decide +kernel
theorem dX1_letPass_54 : decode cX1_letPass 54 = .ok (.aload_n 0, 1) := by decide +kernel
theorem dX1_letPass_55 : decode cX1_letPass 55 = .ok (.getfield 12, 3) := by decide +kernel
theorem dX1_letPass_58 : decode cX1_letPass 58 = .ok (.aload_n 0, 1) := by decide +kernel
theorem dX1_letPass_59 : decode cX1_letPass 59 = .ok (.getfield 49, 3) := by decide +kernel
theorem dX1_letPass_62 : decode cX1_letPass 62 = .ok (.invokevirtual 83, 3) := by decide +kernel
theorem dX1_letPass_65 : decode cX1_letPass 65 = .ok (.istore 4, 2) := by decide +kernel
theorem dX1_letPass_67 : decode cX1_letPass 67 = .ok (.iconst 0, 1) := by decide +kernel
theorem dX1_letPass_68 : decode cX1_letPass 68 = .ok (.istore 5, 2) := by decide +kernel
theorem dX1_letPass_70 : decode cX1_letPass 70 = .ok (.iload 5, 2) := by decide +kernel
theorem dX1_letPass_72 : decode cX1_letPass 72 = .ok (.aload_n 0, 1) := by decide +kernel
theorem dX1_letPass_73 : decode cX1_letPass 73 = .ok (.getfield 20, 3) := by decide +kernel
theorem dX1_letPass_76 : decode cX1_letPass 76 = .ok (.arraylength, 1) := by decide +kernel
theorem dX1_letPass_77 : decode cX1_letPass 77 = .ok (.if_icmp .ge 51, 3) := by decide +kernel
theorem dX1_letPass_80 : decode cX1_letPass 80 = .ok (.aload_n 0, 1) := by decide +kernel
theorem dX1_letPass_81 : decode cX1_letPass 81 = .ok (.getfield 20, 3) := by decide +kernel
theorem dX1_letPass_84 : decode cX1_letPass 84 = .ok (.iload 5, 2) := by decide +kernel
theorem dX1_letPass_86 : decode cX1_letPass 86 = .ok (.aaload, 1) := by decide +kernel
theorem dX1_letPass_87 : decode cX1_letPass 87 = .ok (.getfield 52, 3) := by decide +kernel
theorem dX1_letPass_90 : decode cX1_letPass 90 = .ok (.ifCond .eq 32, 3) := by decide +kernel
theorem dX1_letPass_93 : decode cX1_letPass 93 = .ok (.aload_n 0, 1) := by decide +kernel
theorem dX1_letPass_94 : decode cX1_letPass 94 = .ok (.aload_n 0, 1) := by decide +kernel
theorem dX1_letPass_95 : decode cX1_letPass 95 = .ok (.getfield 20, 3) := by decide +kernel
theorem dX1_letPass_98 : decode cX1_letPass 98 = .ok (.iload 5, 2) := by decide +kernel
theorem dX1_letPass_100 : decode cX1_letPass 100 = .ok (.aaload, 1) := by decide +kernel
theorem dX1_letPass_101 : decode cX1_letPass 101 = .ok (.iload 4, 2) := by decide +kernel
theorem dX1_letPass_103 : decode cX1_letPass 103 = .ok (.invokevirtual 151, 3) := by decide +kernel
theorem dX1_letPass_106 : decode cX1_letPass 106 = .ok (.ifCond .eq 16, 3) := by decide +kernel
theorem dX1_letPass_109 : decode cX1_letPass 109 = .ok (.aload_n 0, 1) := by decide +kernel
theorem dX1_letPass_110 : decode cX1_letPass 110 = .ok (.aload_n 0, 1) := by decide +kernel
theorem dX1_letPass_111 : decode cX1_letPass 111 = .ok (.getfield 20, 3) := by decide +kernel
theorem dX1_letPass_114 : decode cX1_letPass 114 = .ok (.iload 5, 2) := by decide +kernel
theorem dX1_letPass_116 : decode cX1_letPass 116 = .ok (.aaload, 1) := by decide +kernel
theorem dX1_letPass_117 : decode cX1_letPass 117 = .ok (.iload 4, 2) := by decide +kernel
theorem dX1_letPass_119 : decode cX1_letPass 119 = .ok (.invokevirtual 87, 3) := by decide +kernel
theorem dX1_letPass_122 : decode cX1_letPass 122 = .ok (.iinc 5 1, 3) := by decide +kernel
theorem dX1_letPass_125 : decode cX1_letPass 125 = .ok (.goto (-55), 3) := by decide +kernel
theorem dX1_letPass_128 : decode cX1_letPass 128 = .ok (.iinc 3 1, 3) := by decide +kernel
theorem dX1_letPass_131 : decode cX1_letPass 131 = .ok (.goto (-92), 3) := by decide +kernel
theorem dX1_letPass_134 : decode cX1_letPass 134 = .ok (.aload_n 0, 1) := by decide +kernel
theorem dX1_letPass_135 : decode cX1_letPass 135 = .ok (.getfield 27, 3) := by decide +kernel
theorem dX1_letPass_138 : decode cX1_letPass 138 = .ok (.getfield 134, 3) := by decide +kernel
theorem dX1_letPass_141 : decode cX1_letPass 141 = .ok (.iload_n 2, 1) := by decide +kernel
theorem dX1_letPass_142 : decode cX1_letPass 142 = .ok (.isub, 1) := by decide +kernel
theorem dX1_letPass_143 : decode cX1_letPass 143 = .ok (.ireturn, 1) := by decide +kernel
theorem dX1_follow_0 : decode cX1_follow 0 = .ok (.aload_n 0, 1) := by decide +kernel
theorem dX1_follow_1 : decode cX1_follow 1 = .ok (.iload_n 1, 1) := by decide +kernel
theorem dX1_follow_2 : decode cX1_follow 2 = .ok (.invokevirtual 135, 3) := by decide +kernel
theorem dX1_follow_5 : decode cX1_follow 5 = .ok (.ifCond .ne 4, 3) := by decide +kernel
theorem dX1_follow_8 : decode cX1_follow 8 = .ok (.return_, 1) := by decide +kernel
theorem dX1_follow_9 : decode cX1_follow 9 = .ok (.iconst 0, 1) := by decide +kernel
theorem dX1_follow_10 : decode cX1_follow 10 = .ok (.istore_n 3, 1) := by decide +kernel
theorem dX1_follow_11 : decode cX1_follow 11 = .ok (.iload_n 3, 1) := by decide +kernel
theorem dX1_follow_12 : decode cX1_follow 12 = .ok (.iload_n 2, 1) := by decide +kernel
theorem dX1_follow_13 : decode cX1_follow 13 = .ok (.if_icmp .ge 59, 3) := by decide +kernel
theorem dX1_follow_16 : decode cX1_follow 16 = .ok (.aload_n 0, 1) := by decide +kernel
theorem dX1_follow_17 : decode cX1_follow 17 = .ok (.dup, 1) := by decide +kernel
theorem dX1_follow_18 : decode cX1_follow 18 = .ok (.getfield 49, 3) := by decide +kernel
theorem dX1_follow_21 : decode cX1_follow 21 = .ok (.iconst 1, 1) := by decide +kernel
theorem dX1_follow_22 : decode cX1_follow 22 = .ok (.iadd, 1) := by decide +kernel
theorem dX1_follow_23 : decode cX1_follow 23 = .ok (.putfield 49, 3) := by decide +kernel
theorem dX1_follow_26 : decode cX1_follow 26 = .ok (.aload_n 0, 1) := by decide +kernel
theorem dX1_follow_27 : decode cX1_follow 27 = .ok (.getfield 12, 3) := by decide +kernel
theorem dX1_follow_30 : decode cX1_follow 30 = .ok (.aload_n 0, 1) := by decide +kernel
theorem dX1_follow_31 : decode cX1_follow 31 = .ok (.getfield 49, 3) := by decide +kernel
theorem dX1_follow_34 : decode cX1_follow 34 = .ok (.invokevirtual 83, 3) := by decide +kernel
theorem dX1_follow_37 : decode cX1_follow 37 = .ok (.istore 4, 2) := by decide +kernel
theorem dX1_follow_39 : decode cX1_follow 39 = .ok (.aload_n 0, 1) := by decide +kernel
theorem dX1_follow_40 : decode cX1_follow 40 = .ok (.aload_n 0, 1) := by decide +kernel
theorem dX1_follow_41 : decode cX1_follow 41 = .ok (.getfield 20, 3) := by decide +kernel
theorem dX1_follow_44 : decode cX1_follow 44 = .ok (.iload_n 1, 1) := by decide +kernel
theorem dX1_follow_45 : decode cX1_follow 45 = .ok (.aaload, 1) := by decide +kernel
theorem dX1_follow_46 : decode cX1_follow 46 = .ok (.iload 4, 2) := by decide +kernel
theorem dX1_follow_48 : decode cX1_follow 48 = .ok (.invokevirtual 151, 3) := by decide +kernel
theorem dX1_follow_51 : decode cX1_follow 51 = .ok (.ifCond .eq 15, 3) := by decide +kernel
theorem dX1_follow_54 : decode cX1_follow 54 = .ok (.aload_n 0, 1) := by decide +kernel
theorem dX1_follow_55 : decode cX1_follow 55 = .ok (.aload_n 0, 1) := by decide +kernel
theorem dX1_follow_56 : decode cX1_follow 56 = .ok (.getfield 20, 3) := by decide +kernel
theorem dX1_follow_59 : decode cX1_follow 59 = .ok (.iload_n 1, 1) := by decide +kernel
theorem dX1_follow_60 : decode cX1_follow 60 = .ok (.aaload, 1) := by decide +kernel
theorem dX1_follow_61 : decode cX1_follow 61 = .ok (.iload 4, 2) := by decide +kernel
theorem dX1_follow_63 : decode cX1_follow 63 = .ok (.invokevirtual 87, 3) := by decide +kernel
theorem dX1_follow_66 : decode cX1_follow 66 = .ok (.iinc 3 1, 3) := by decide +kernel
theorem dX1_follow_69 : decode cX1_follow 69 = .ok (.goto (-58), 3) := by decide +kernel
theorem dX1_follow_72 : decode cX1_follow 72 = .ok (.return_, 1) := by decide +kernel
theorem dX1_age_0 : decode cX1_age 0 = .ok (.aload_n 0, 1) := by decide +kernel
theorem dX1_age_1 : decode cX1_age 1 = .ok (.getfield 27, 3) := by decide +kernel
theorem dX1_age_4 : decode cX1_age 4 = .ok (.dup, 1) := by decide +kernel
theorem dX1_age_5 : decode cX1_age 5 = .ok (.getfield 154, 3) := by decide +kernel
theorem dX1_age_8 : decode cX1_age 8 = .ok (.iconst 1, 1) := by decide +kernel
theorem dX1_age_9 : decode cX1_age 9 = .ok (.iadd, 1) := by decide +kernel
theorem dX1_age_10 : decode cX1_age 10 = .ok (.putfield 154, 3) := by decide +kernel
theorem dX1_age_13 : decode cX1_age 13 = .ok (.aload_n 1, 1) := by decide +kernel
theorem dX1_age_14 : decode cX1_age 14 = .ok (.getfield 59, 3) := by decide +kernel
theorem dX1_age_17 : decode cX1_age 17 = .ok (.iconst (-1), 1) := by decide +kernel
theorem dX1_age_18 : decode cX1_age 18 = .ok (.if_icmp .ne 29, 3) := by decide +kernel
theorem dX1_age_21 : decode cX1_age 21 = .ok (.aload_n 1, 1) := by decide +kernel
theorem dX1_age_22 : decode cX1_age 22 = .ok (.dup, 1) := by decide +kernel
theorem dX1_age_23 : decode cX1_age 23 = .ok (.getfield 156, 3) := by decide +kernel
theorem dX1_age_26 : decode cX1_age 26 = .ok (.iconst 1, 1) := by decide +kernel
theorem dX1_age_27 : decode cX1_age 27 = .ok (.iadd, 1) := by decide +kernel
theorem dX1_age_28 : decode cX1_age 28 = .ok (.putfield 156, 3) := by decide +kernel
theorem dX1_age_31 : decode cX1_age 31 = .ok (.aload_n 0, 1) := by decide +kernel
theorem dX1_age_32 : decode cX1_age 32 = .ok (.getfield 27, 3) := by decide +kernel
theorem dX1_age_35 : decode cX1_age 35 = .ok (.dup, 1) := by decide +kernel
theorem dX1_age_36 : decode cX1_age 36 = .ok (.getfield 159, 3) := by decide +kernel
theorem dX1_age_39 : decode cX1_age 39 = .ok (.iconst 1, 1) := by decide +kernel
theorem dX1_age_40 : decode cX1_age 40 = .ok (.iadd, 1) := by decide +kernel
theorem dX1_age_41 : decode cX1_age 41 = .ok (.putfield 159, 3) := by decide +kernel
theorem dX1_age_44 : decode cX1_age 44 = .ok (.goto 103, 3) := by decide +kernel
theorem dX1_age_47 : decode cX1_age 47 = .ok (.aload_n 1, 1) := by decide +kernel
theorem dX1_age_48 : decode cX1_age 48 = .ok (.getfield 105, 3) := by decide +kernel
theorem dX1_age_51 : decode cX1_age 51 = .ok (.iload_n 2, 1) := by decide +kernel
theorem dX1_age_52 : decode cX1_age 52 = .ok (.if_icmp .eq 34, 3) := by decide +kernel
theorem dX1_age_55 : decode cX1_age 55 = .ok (.aload_n 1, 1) := by decide +kernel
theorem dX1_age_56 : decode cX1_age 56 = .ok (.iconst 0, 1) := by decide +kernel
theorem dX1_age_57 : decode cX1_age 57 = .ok (.putfield 108, 3) := by decide +kernel
theorem dX1_age_60 : decode cX1_age 60 = .ok (.aload_n 1, 1) := by decide +kernel
theorem dX1_age_61 : decode cX1_age 61 = .ok (.dup, 1) := by decide +kernel
theorem dX1_age_62 : decode cX1_age 62 = .ok (.getfield 160, 3) := by decide +kernel
theorem dX1_age_65 : decode cX1_age 65 = .ok (.iconst 1, 1) := by decide +kernel
theorem dX1_age_66 : decode cX1_age 66 = .ok (.iadd, 1) := by decide +kernel
theorem dX1_age_67 : decode cX1_age 67 = .ok (.putfield 160, 3) := by decide +kernel
theorem dX1_age_70 : decode cX1_age 70 = .ok (.aload_n 0, 1) := by decide +kernel
theorem dX1_age_71 : decode cX1_age 71 = .ok (.getfield 27, 3) := by decide +kernel
theorem dX1_age_74 : decode cX1_age 74 = .ok (.dup, 1) := by decide +kernel
theorem dX1_age_75 : decode cX1_age 75 = .ok (.getfield 163, 3) := by decide +kernel
theorem dX1_age_78 : decode cX1_age 78 = .ok (.iconst 1, 1) := by decide +kernel
theorem dX1_age_79 : decode cX1_age 79 = .ok (.iadd, 1) := by decide +kernel
theorem dX1_age_80 : decode cX1_age 80 = .ok (.putfield 163, 3) := by decide +kernel
theorem dX1_age_83 : decode cX1_age 83 = .ok (.goto 64, 3) := by decide +kernel
theorem dX1_age_86 : decode cX1_age 86 = .ok (.aload_n 1, 1) := by decide +kernel
theorem dX1_age_87 : decode cX1_age 87 = .ok (.getfield 56, 3) := by decide +kernel
theorem dX1_age_90 : decode cX1_age 90 = .ok (.ifCond .ne 55, 3) := by decide +kernel
theorem dX1_age_93 : decode cX1_age 93 = .ok (.aload_n 0, 1) := by decide +kernel
theorem dX1_age_94 : decode cX1_age 94 = .ok (.getfield 49, 3) := by decide +kernel
theorem dX1_age_97 : decode cX1_age 97 = .ok (.aload_n 1, 1) := by decide +kernel
theorem dX1_age_98 : decode cX1_age 98 = .ok (.getfield 128, 3) := by decide +kernel
theorem dX1_age_101 : decode cX1_age 101 = .ok (.isub, 1) := by decide +kernel
theorem dX1_age_102 : decode cX1_age 102 = .ok (.aload_n 0, 1) := by decide +kernel
theorem dX1_age_103 : decode cX1_age 103 = .ok (.getfield 31, 3) := by decide +kernel
theorem dX1_age_106 : decode cX1_age 106 = .ok (.if_icmp .lt 39, 3) := by decide +kernel
theorem dX1_age_109 : decode cX1_age 109 = .ok (.aload_n 1, 1) := by decide +kernel
theorem dX1_age_110 : decode cX1_age 110 = .ok (.dup, 1) := by decide +kernel
theorem dX1_age_111 : decode cX1_age 111 = .ok (.getfield 108, 3) := by decide +kernel
theorem dX1_age_114 : decode cX1_age 114 = .ok (.iconst 1, 1) := by decide +kernel
theorem dX1_age_115 : decode cX1_age 115 = .ok (.iadd, 1) := by decide +kernel
theorem dX1_age_116 : decode cX1_age 116 = .ok (.putfield 108, 3) := by decide +kernel
theorem dX1_age_119 : decode cX1_age 119 = .ok (.aload_n 1, 1) := by decide +kernel
theorem dX1_age_120 : decode cX1_age 120 = .ok (.dup, 1) := by decide +kernel
theorem dX1_age_121 : decode cX1_age 121 = .ok (.getfield 164, 3) := by decide +kernel
theorem dX1_age_124 : decode cX1_age 124 = .ok (.iconst 1, 1) := by decide +kernel
theorem dX1_age_125 : decode cX1_age 125 = .ok (.iadd, 1) := by decide +kernel
theorem dX1_age_126 : decode cX1_age 126 = .ok (.putfield 164, 3) := by decide +kernel
theorem dX1_age_129 : decode cX1_age 129 = .ok (.aload_n 0, 1) := by decide +kernel
theorem dX1_age_130 : decode cX1_age 130 = .ok (.getfield 27, 3) := by decide +kernel
theorem dX1_age_133 : decode cX1_age 133 = .ok (.dup, 1) := by decide +kernel
theorem dX1_age_134 : decode cX1_age 134 = .ok (.getfield 167, 3) := by decide +kernel
theorem dX1_age_137 : decode cX1_age 137 = .ok (.iconst 1, 1) := by decide +kernel
theorem dX1_age_138 : decode cX1_age 138 = .ok (.iadd, 1) := by decide +kernel
theorem dX1_age_139 : decode cX1_age 139 = .ok (.putfield 167, 3) := by decide +kernel
theorem dX1_age_142 : decode cX1_age 142 = .ok (.goto 5, 3) := by decide +kernel
theorem dX1_age_145 : decode cX1_age 145 = .ok (.iconst 0, 1) := by decide +kernel
theorem dX1_age_146 : decode cX1_age 146 = .ok (.ireturn, 1) := by decide +kernel
theorem dX1_age_147 : decode cX1_age 147 = .ok (.iconst 1, 1) := by decide +kernel
theorem dX1_age_148 : decode cX1_age 148 = .ok (.ireturn, 1) := by decide +kernel
theorem dX2_init_0 : decode cX2_init 0 = .ok (.aload_n 0, 1) := by decide +kernel
theorem dX2_init_1 : decode cX2_init 1 = .ok (.invokespecial 3, 3) := by decide +kernel
theorem dX2_init_4 : decode cX2_init 4 = .ok (.return_, 1) := by decide +kernel
theorem dX2_copyFrom_0 : decode cX2_copyFrom 0 = .ok (.aload_n 0, 1) := by decide +kernel
theorem dX2_copyFrom_1 : decode cX2_copyFrom 1 = .ok (.aload_n 1, 1) := by decide +kernel
theorem dX2_copyFrom_2 : decode cX2_copyFrom 2 = .ok (.getfield 9, 3) := by decide +kernel
theorem dX2_copyFrom_5 : decode cX2_copyFrom 5 = .ok (.putfield 9, 3) := by decide +kernel
theorem dX2_copyFrom_8 : decode cX2_copyFrom 8 = .ok (.aload_n 0, 1) := by decide +kernel
theorem dX2_copyFrom_9 : decode cX2_copyFrom 9 = .ok (.aload_n 1, 1) := by decide +kernel
theorem dX2_copyFrom_10 : decode cX2_copyFrom 10 = .ok (.getfield 15, 3) := by decide +kernel
theorem dX2_copyFrom_13 : decode cX2_copyFrom 13 = .ok (.putfield 15, 3) := by decide +kernel
theorem dX2_copyFrom_16 : decode cX2_copyFrom 16 = .ok (.aload_n 0, 1) := by decide +kernel
theorem dX2_copyFrom_17 : decode cX2_copyFrom 17 = .ok (.aload_n 1, 1) := by decide +kernel
theorem dX2_copyFrom_18 : decode cX2_copyFrom 18 = .ok (.getfield 19, 3) := by decide +kernel
theorem dX2_copyFrom_21 : decode cX2_copyFrom 21 = .ok (.putfield 19, 3) := by decide +kernel
theorem dX2_copyFrom_24 : decode cX2_copyFrom 24 = .ok (.aload_n 0, 1) := by decide +kernel
theorem dX2_copyFrom_25 : decode cX2_copyFrom 25 = .ok (.aload_n 1, 1) := by decide +kernel
theorem dX2_copyFrom_26 : decode cX2_copyFrom 26 = .ok (.getfield 22, 3) := by decide +kernel
theorem dX2_copyFrom_29 : decode cX2_copyFrom 29 = .ok (.putfield 22, 3) := by decide +kernel
theorem dX2_copyFrom_32 : decode cX2_copyFrom 32 = .ok (.aload_n 0, 1) := by decide +kernel
theorem dX2_copyFrom_33 : decode cX2_copyFrom 33 = .ok (.aload_n 1, 1) := by decide +kernel
theorem dX2_copyFrom_34 : decode cX2_copyFrom 34 = .ok (.getfield 25, 3) := by decide +kernel
theorem dX2_copyFrom_37 : decode cX2_copyFrom 37 = .ok (.putfield 25, 3) := by decide +kernel
theorem dX2_copyFrom_40 : decode cX2_copyFrom 40 = .ok (.aload_n 0, 1) := by decide +kernel
theorem dX2_copyFrom_41 : decode cX2_copyFrom 41 = .ok (.aload_n 1, 1) := by decide +kernel
theorem dX2_copyFrom_42 : decode cX2_copyFrom 42 = .ok (.getfield 28, 3) := by decide +kernel
theorem dX2_copyFrom_45 : decode cX2_copyFrom 45 = .ok (.putfield 28, 3) := by decide +kernel
theorem dX2_copyFrom_48 : decode cX2_copyFrom 48 = .ok (.aload_n 0, 1) := by decide +kernel
theorem dX2_copyFrom_49 : decode cX2_copyFrom 49 = .ok (.aload_n 1, 1) := by decide +kernel
theorem dX2_copyFrom_50 : decode cX2_copyFrom 50 = .ok (.getfield 31, 3) := by decide +kernel
theorem dX2_copyFrom_53 : decode cX2_copyFrom 53 = .ok (.putfield 31, 3) := by decide +kernel
theorem dX2_copyFrom_56 : decode cX2_copyFrom 56 = .ok (.aload_n 0, 1) := by decide +kernel
theorem dX2_copyFrom_57 : decode cX2_copyFrom 57 = .ok (.aload_n 1, 1) := by decide +kernel
theorem dX2_copyFrom_58 : decode cX2_copyFrom 58 = .ok (.getfield 34, 3) := by decide +kernel
theorem dX2_copyFrom_61 : decode cX2_copyFrom 61 = .ok (.putfield 34, 3) := by decide +kernel
theorem dX2_copyFrom_64 : decode cX2_copyFrom 64 = .ok (.aload_n 0, 1) := by decide +kernel
theorem dX2_copyFrom_65 : decode cX2_copyFrom 65 = .ok (.aload_n 1, 1) := by decide +kernel
theorem dX2_copyFrom_66 : decode cX2_copyFrom 66 = .ok (.getfield 37, 3) := by decide +kernel
theorem dX2_copyFrom_69 : decode cX2_copyFrom 69 = .ok (.putfield 37, 3) := by decide +kernel
theorem dX2_copyFrom_72 : decode cX2_copyFrom 72 = .ok (.aload_n 0, 1) := by decide +kernel
theorem dX2_copyFrom_73 : decode cX2_copyFrom 73 = .ok (.aload_n 1, 1) := by decide +kernel
theorem dX2_copyFrom_74 : decode cX2_copyFrom 74 = .ok (.getfield 40, 3) := by decide +kernel
theorem dX2_copyFrom_77 : decode cX2_copyFrom 77 = .ok (.putfield 40, 3) := by decide +kernel
theorem dX2_copyFrom_80 : decode cX2_copyFrom 80 = .ok (.aload_n 0, 1) := by decide +kernel
theorem dX2_copyFrom_81 : decode cX2_copyFrom 81 = .ok (.aload_n 1, 1) := by decide +kernel
theorem dX2_copyFrom_82 : decode cX2_copyFrom 82 = .ok (.getfield 43, 3) := by decide +kernel
theorem dX2_copyFrom_85 : decode cX2_copyFrom 85 = .ok (.putfield 43, 3) := by decide +kernel
theorem dX2_copyFrom_88 : decode cX2_copyFrom 88 = .ok (.aload_n 0, 1) := by decide +kernel
theorem dX2_copyFrom_89 : decode cX2_copyFrom 89 = .ok (.aload_n 1, 1) := by decide +kernel
theorem dX2_copyFrom_90 : decode cX2_copyFrom 90 = .ok (.getfield 46, 3) := by decide +kernel
theorem dX2_copyFrom_93 : decode cX2_copyFrom 93 = .ok (.putfield 46, 3) := by decide +kernel
theorem dX2_copyFrom_96 : decode cX2_copyFrom 96 = .ok (.aload_n 0, 1) := by decide +kernel
theorem dX2_copyFrom_97 : decode cX2_copyFrom 97 = .ok (.aload_n 1, 1) := by decide +kernel
theorem dX2_copyFrom_98 : decode cX2_copyFrom 98 = .ok (.getfield 49, 3) := by decide +kernel
theorem dX2_copyFrom_101 : decode cX2_copyFrom 101 = .ok (.putfield 49, 3) := by decide +kernel
theorem dX2_copyFrom_104 : decode cX2_copyFrom 104 = .ok (.aload_n 0, 1) := by decide +kernel
theorem dX2_copyFrom_105 : decode cX2_copyFrom 105 = .ok (.aload_n 1, 1) := by decide +kernel
theorem dX2_copyFrom_106 : decode cX2_copyFrom 106 = .ok (.getfield 52, 3) := by decide +kernel
theorem dX2_copyFrom_109 : decode cX2_copyFrom 109 = .ok (.putfield 52, 3) := by decide +kernel
theorem dX2_copyFrom_112 : decode cX2_copyFrom 112 = .ok (.return_, 1) := by decide +kernel
theorem dX2_makeNew_0 : decode cX2_makeNew 0 = .ok (.aload_n 0, 1) := by decide +kernel
theorem dX2_makeNew_1 : decode cX2_makeNew 1 = .ok (.iconst 1, 1) := by decide +kernel
theorem dX2_makeNew_2 : decode cX2_makeNew 2 = .ok (.putfield 9, 3) := by decide +kernel
theorem dX2_makeNew_5 : decode cX2_makeNew 5 = .ok (.aload_n 0, 1) := by decide +kernel
theorem dX2_makeNew_6 : decode cX2_makeNew 6 = .ok (.iload_n 1, 1) := by decide +kernel
theorem dX2_makeNew_7 : decode cX2_makeNew 7 = .ok (.putfield 15, 3) := by decide +kernel
theorem dX2_makeNew_10 : decode cX2_makeNew 10 = .ok (.aload_n 0, 1) := by decide +kernel
theorem dX2_makeNew_11 : decode cX2_makeNew 11 = .ok (.iload_n 2, 1) := by decide +kernel
theorem dX2_makeNew_12 : decode cX2_makeNew 12 = .ok (.putfield 19, 3) := by decide +kernel
theorem dX2_makeNew_15 : decode cX2_makeNew 15 = .ok (.aload_n 0, 1) := by decide +kernel
theorem dX2_makeNew_16 : decode cX2_makeNew 16 = .ok (.iconst 0, 1) := by decide +kernel
theorem dX2_makeNew_17 : decode cX2_makeNew 17 = .ok (.putfield 22, 3) := by decide +kernel
theorem dX2_makeNew_20 : decode cX2_makeNew 20 = .ok (.aload_n 0, 1) := by decide +kernel
theorem dX2_makeNew_21 : decode cX2_makeNew 21 = .ok (.iconst (-1), 1) := by decide +kernel
theorem dX2_makeNew_22 : decode cX2_makeNew 22 = .ok (.putfield 25, 3) := by decide +kernel
theorem dX2_makeNew_25 : decode cX2_makeNew 25 = .ok (.aload_n 0, 1) := by decide +kernel
theorem dX2_makeNew_26 : decode cX2_makeNew 26 = .ok (.iconst (-1), 1) := by decide +kernel
theorem dX2_makeNew_27 : decode cX2_makeNew 27 = .ok (.putfield 28, 3) := by decide +kernel
theorem dX2_makeNew_30 : decode cX2_makeNew 30 = .ok (.aload_n 0, 1) := by decide +kernel
theorem dX2_makeNew_31 : decode cX2_makeNew 31 = .ok (.iconst (-1), 1) := by decide +kernel
theorem dX2_makeNew_32 : decode cX2_makeNew 32 = .ok (.putfield 31, 3) := by decide +kernel
theorem dX2_makeNew_35 : decode cX2_makeNew 35 = .ok (.aload_n 0, 1) := by decide +kernel
theorem dX2_makeNew_36 : decode cX2_makeNew 36 = .ok (.iconst 0, 1) := by decide +kernel
theorem dX2_makeNew_37 : decode cX2_makeNew 37 = .ok (.putfield 34, 3) := by decide +kernel
theorem dX2_makeNew_40 : decode cX2_makeNew 40 = .ok (.aload_n 0, 1) := by decide +kernel
theorem dX2_makeNew_41 : decode cX2_makeNew 41 = .ok (.iconst 1, 1) := by decide +kernel
theorem dX2_makeNew_42 : decode cX2_makeNew 42 = .ok (.putfield 37, 3) := by decide +kernel
theorem dX2_makeNew_45 : decode cX2_makeNew 45 = .ok (.aload_n 0, 1) := by decide +kernel
theorem dX2_makeNew_46 : decode cX2_makeNew 46 = .ok (.iload_n 3, 1) := by decide +kernel
theorem dX2_makeNew_47 : decode cX2_makeNew 47 = .ok (.putfield 40, 3) := by decide +kernel
theorem dX2_makeNew_50 : decode cX2_makeNew 50 = .ok (.aload_n 0, 1) := by decide +kernel
theorem dX2_makeNew_51 : decode cX2_makeNew 51 = .ok (.iload_n 3, 1) := by decide +kernel
theorem dX2_makeNew_52 : decode cX2_makeNew 52 = .ok (.putfield 43, 3) := by decide +kernel
theorem dX2_makeNew_55 : decode cX2_makeNew 55 = .ok (.aload_n 0, 1) := by decide +kernel
theorem dX2_makeNew_56 : decode cX2_makeNew 56 = .ok (.iconst 0, 1) := by decide +kernel
theorem dX2_makeNew_57 : decode cX2_makeNew 57 = .ok (.putfield 46, 3) := by decide +kernel
theorem dX2_makeNew_60 : decode cX2_makeNew 60 = .ok (.aload_n 0, 1) := by decide +kernel
theorem dX2_makeNew_61 : decode cX2_makeNew 61 = .ok (.iconst 0, 1) := by decide +kernel
theorem dX2_makeNew_62 : decode cX2_makeNew 62 = .ok (.putfield 49, 3) := by decide +kernel
theorem dX2_makeNew_65 : decode cX2_makeNew 65 = .ok (.aload_n 0, 1) := by decide +kernel
theorem dX2_makeNew_66 : decode cX2_makeNew 66 = .ok (.iconst 0, 1) := by decide +kernel
theorem dX2_makeNew_67 : decode cX2_makeNew 67 = .ok (.putfield 52, 3) := by decide +kernel
theorem dX2_makeNew_70 : decode cX2_makeNew 70 = .ok (.return_, 1) := by decide +kernel
theorem dX3_init_0 : decode cX3_init 0 = .ok (.aload_n 0, 1) := by decide +kernel
theorem dX3_init_1 : decode cX3_init 1 = .ok (.invokespecial 1, 3) := by decide +kernel
theorem dX3_init_4 : decode cX3_init 4 = .ok (.aload_n 0, 1) := by decide +kernel
theorem dX3_init_5 : decode cX3_init 5 = .ok (.new 7, 3) := by decide +kernel
theorem dX3_init_8 : decode cX3_init 8 = .ok (.dup, 1) := by decide +kernel
theorem dX3_init_9 : decode cX3_init 9 = .ok (.invokespecial 9, 3) := by decide +kernel
theorem dX3_init_12 : decode cX3_init 12 = .ok (.putfield 10, 3) := by decide +kernel
theorem dX3_init_15 : decode cX3_init 15 = .ok (.return_, 1) := by decide +kernel
theorem dX3_copyFrom_0 : decode cX3_copyFrom 0 = .ok (.aload_n 0, 1) := by decide +kernel
theorem dX3_copyFrom_1 : decode cX3_copyFrom 1 = .ok (.getfield 10, 3) := by decide +kernel
theorem dX3_copyFrom_4 : decode cX3_copyFrom 4 = .ok (.aload_n 1, 1) := by decide +kernel
theorem dX3_copyFrom_5 : decode cX3_copyFrom 5 = .ok (.getfield 10, 3) := by decide +kernel
theorem dX3_copyFrom_8 : decode cX3_copyFrom 8 = .ok (.getfield 16, 3) := by decide +kernel
theorem dX3_copyFrom_11 : decode cX3_copyFrom 11 = .ok (.aload_n 1, 1) := by decide +kernel
theorem dX3_copyFrom_12 : decode cX3_copyFrom 12 = .ok (.getfield 10, 3) := by decide +kernel
theorem dX3_copyFrom_15 : decode cX3_copyFrom 15 = .ok (.getfield 20, 3) := by decide +kernel
theorem dX3_copyFrom_18 : decode cX3_copyFrom 18 = .ok (.invokevirtual 23, 3) := by decide +kernel
theorem dX3_copyFrom_21 : decode cX3_copyFrom 21 = .ok (.aload_n 0, 1) := by decide +kernel
theorem dX3_copyFrom_22 : decode cX3_copyFrom 22 = .ok (.aload_n 1, 1) := by decide +kernel
theorem dX3_copyFrom_23 : decode cX3_copyFrom 23 = .ok (.getfield 27, 3) := by decide +kernel
theorem dX3_copyFrom_26 : decode cX3_copyFrom 26 = .ok (.putfield 27, 3) := by decide +kernel
theorem dX3_copyFrom_29 : decode cX3_copyFrom 29 = .ok (.aload_n 0, 1) := by decide +kernel
theorem dX3_copyFrom_30 : decode cX3_copyFrom 30 = .ok (.aload_n 1, 1) := by decide +kernel
theorem dX3_copyFrom_31 : decode cX3_copyFrom 31 = .ok (.getfield 30, 3) := by decide +kernel
theorem dX3_copyFrom_34 : decode cX3_copyFrom 34 = .ok (.putfield 30, 3) := by decide +kernel
theorem dX3_copyFrom_37 : decode cX3_copyFrom 37 = .ok (.aload_n 0, 1) := by decide +kernel
theorem dX3_copyFrom_38 : decode cX3_copyFrom 38 = .ok (.aload_n 1, 1) := by decide +kernel
theorem dX3_copyFrom_39 : decode cX3_copyFrom 39 = .ok (.getfield 33, 3) := by decide +kernel
theorem dX3_copyFrom_42 : decode cX3_copyFrom 42 = .ok (.putfield 33, 3) := by decide +kernel
theorem dX3_copyFrom_45 : decode cX3_copyFrom 45 = .ok (.return_, 1) := by decide +kernel
theorem dX3_sleepsThrough_0 : decode cX3_sleepsThrough 0 = .ok (.iload_n 2, 1) := by decide +kernel
theorem dX3_sleepsThrough_1 : decode cX3_sleepsThrough 1 = .ok (.ifCond .ne 29, 3) := by decide +kernel
theorem dX3_sleepsThrough_4 : decode cX3_sleepsThrough 4 = .ok (.aload_n 0, 1) := by decide +kernel
theorem dX3_sleepsThrough_5 : decode cX3_sleepsThrough 5 = .ok (.getfield 27, 3) := by decide +kernel
theorem dX3_sleepsThrough_8 : decode cX3_sleepsThrough 8 = .ok (.iload_n 1, 1) := by decide +kernel
theorem dX3_sleepsThrough_9 : decode cX3_sleepsThrough 9 = .ok (.ishr, 1) := by decide +kernel
theorem dX3_sleepsThrough_10 : decode cX3_sleepsThrough 10 = .ok (.iconst 1, 1) := by decide +kernel
theorem dX3_sleepsThrough_11 : decode cX3_sleepsThrough 11 = .ok (.iand, 1) := by decide +kernel
theorem dX3_sleepsThrough_12 : decode cX3_sleepsThrough 12 = .ok (.ifCond .ne 18, 3) := by decide +kernel
theorem dX3_sleepsThrough_15 : decode cX3_sleepsThrough 15 = .ok (.aload_n 0, 1) := by decide +kernel
theorem dX3_sleepsThrough_16 : decode cX3_sleepsThrough 16 = .ok (.getfield 10, 3) := by decide +kernel
theorem dX3_sleepsThrough_19 : decode cX3_sleepsThrough 19 = .ok (.iload_n 3, 1) := by decide +kernel
theorem dX3_sleepsThrough_20 : decode cX3_sleepsThrough 20 = .ok (.invokevirtual 36, 3) := by decide +kernel
theorem dX3_sleepsThrough_23 : decode cX3_sleepsThrough 23 = .ok (.ifCond .eq 7, 3) := by decide +kernel
theorem dX3_sleepsThrough_26 : decode cX3_sleepsThrough 26 = .ok (.iconst 1, 1) := by decide +kernel
theorem dX3_sleepsThrough_27 : decode cX3_sleepsThrough 27 = .ok (.goto 4, 3) := by decide +kernel
theorem dX3_sleepsThrough_30 : decode cX3_sleepsThrough 30 = .ok (.iconst 0, 1) := by decide +kernel
theorem dX3_sleepsThrough_31 : decode cX3_sleepsThrough 31 = .ok (.ireturn, 1) := by decide +kernel
theorem dX4_init_0 : decode cX4_init 0 = .ok (.aload_n 0, 1) := by decide +kernel
theorem dX4_init_1 : decode cX4_init 1 = .ok (.invokespecial 3, 3) := by decide +kernel
theorem dX4_init_4 : decode cX4_init 4 = .ok (.aload_n 0, 1) := by decide +kernel
theorem dX4_init_5 : decode cX4_init 5 = .ok (.new 9, 3) := by decide +kernel
theorem dX4_init_8 : decode cX4_init 8 = .ok (.dup, 1) := by decide +kernel
theorem dX4_init_9 : decode cX4_init 9 = .ok (.invokespecial 11, 3) := by decide +kernel
theorem dX4_init_12 : decode cX4_init 12 = .ok (.putfield 12, 3) := by decide +kernel
theorem dX4_init_15 : decode cX4_init 15 = .ok (.aload_n 0, 1) := by decide +kernel
theorem dX4_init_16 : decode cX4_init 16 = .ok (.iconst 5, 1) := by decide +kernel
theorem dX4_init_17 : decode cX4_init 17 = .ok (.newarray .int, 2) := by decide +kernel
theorem dX4_init_19 : decode cX4_init 19 = .ok (.putfield 18, 3) := by decide +kernel
theorem dX4_init_22 : decode cX4_init 22 = .ok (.return_, 1) := by decide +kernel
theorem dX4_copyFrom_0 : decode cX4_copyFrom 0 = .ok (.aload_n 0, 1) := by decide +kernel
theorem dX4_copyFrom_1 : decode cX4_copyFrom 1 = .ok (.getfield 12, 3) := by decide +kernel
theorem dX4_copyFrom_4 : decode cX4_copyFrom 4 = .ok (.aload_n 1, 1) := by decide +kernel
theorem dX4_copyFrom_5 : decode cX4_copyFrom 5 = .ok (.getfield 12, 3) := by decide +kernel
theorem dX4_copyFrom_8 : decode cX4_copyFrom 8 = .ok (.getfield 22, 3) := by decide +kernel
theorem dX4_copyFrom_11 : decode cX4_copyFrom 11 = .ok (.aload_n 1, 1) := by decide +kernel
theorem dX4_copyFrom_12 : decode cX4_copyFrom 12 = .ok (.getfield 12, 3) := by decide +kernel
theorem dX4_copyFrom_15 : decode cX4_copyFrom 15 = .ok (.getfield 26, 3) := by decide +kernel
theorem dX4_copyFrom_18 : decode cX4_copyFrom 18 = .ok (.invokevirtual 29, 3) := by decide +kernel
theorem dX4_copyFrom_21 : decode cX4_copyFrom 21 = .ok (.aload_n 1, 1) := by decide +kernel
theorem dX4_copyFrom_22 : decode cX4_copyFrom 22 = .ok (.getfield 18, 3) := by decide +kernel
theorem dX4_copyFrom_25 : decode cX4_copyFrom 25 = .ok (.iconst 0, 1) := by decide +kernel
theorem dX4_copyFrom_26 : decode cX4_copyFrom 26 = .ok (.aload_n 0, 1) := by decide +kernel
theorem dX4_copyFrom_27 : decode cX4_copyFrom 27 = .ok (.getfield 18, 3) := by decide +kernel
theorem dX4_copyFrom_30 : decode cX4_copyFrom 30 = .ok (.iconst 0, 1) := by decide +kernel
theorem dX4_copyFrom_31 : decode cX4_copyFrom 31 = .ok (.iconst 5, 1) := by decide +kernel
theorem dX4_copyFrom_32 : decode cX4_copyFrom 32 = .ok (.invokestatic 33, 3) := by decide +kernel
theorem dX4_copyFrom_35 : decode cX4_copyFrom 35 = .ok (.aload_n 0, 1) := by decide +kernel
theorem dX4_copyFrom_36 : decode cX4_copyFrom 36 = .ok (.aload_n 1, 1) := by decide +kernel
theorem dX4_copyFrom_37 : decode cX4_copyFrom 37 = .ok (.getfield 39, 3) := by decide +kernel
theorem dX4_copyFrom_40 : decode cX4_copyFrom 40 = .ok (.putfield 39, 3) := by decide +kernel
theorem dX4_copyFrom_43 : decode cX4_copyFrom 43 = .ok (.aload_n 0, 1) := by decide +kernel
theorem dX4_copyFrom_44 : decode cX4_copyFrom 44 = .ok (.aload_n 1, 1) := by decide +kernel
theorem dX4_copyFrom_45 : decode cX4_copyFrom 45 = .ok (.getfield 42, 3) := by decide +kernel
theorem dX4_copyFrom_48 : decode cX4_copyFrom 48 = .ok (.putfield 42, 3) := by decide +kernel
theorem dX4_copyFrom_51 : decode cX4_copyFrom 51 = .ok (.return_, 1) := by decide +kernel
theorem dX4_put_0 : decode cX4_put 0 = .ok (.aload_n 0, 1) := by decide +kernel
theorem dX4_put_1 : decode cX4_put 1 = .ok (.getfield 12, 3) := by decide +kernel
theorem dX4_put_4 : decode cX4_put 4 = .ok (.iload_n 1, 1) := by decide +kernel
theorem dX4_put_5 : decode cX4_put 5 = .ok (.iload_n 2, 1) := by decide +kernel
theorem dX4_put_6 : decode cX4_put 6 = .ok (.invokevirtual 29, 3) := by decide +kernel
theorem dX4_put_9 : decode cX4_put 9 = .ok (.aload_n 0, 1) := by decide +kernel
theorem dX4_put_10 : decode cX4_put 10 = .ok (.iload_n 3, 1) := by decide +kernel
theorem dX4_put_11 : decode cX4_put 11 = .ok (.putfield 39, 3) := by decide +kernel
theorem dX4_put_14 : decode cX4_put 14 = .ok (.return_, 1) := by decide +kernel
theorem dX4_covers_0 : decode cX4_covers 0 = .ok (.aload_n 0, 1) := by decide +kernel
theorem dX4_covers_1 : decode cX4_covers 1 = .ok (.getfield 42, 3) := by decide +kernel
theorem dX4_covers_4 : decode cX4_covers 4 = .ok (.ifCond .le 18, 3) := by decide +kernel
theorem dX4_covers_7 : decode cX4_covers 7 = .ok (.aload_n 0, 1) := by decide +kernel
theorem dX4_covers_8 : decode cX4_covers 8 = .ok (.getfield 12, 3) := by decide +kernel
theorem dX4_covers_11 : decode cX4_covers 11 = .ok (.iload_n 1, 1) := by decide +kernel
theorem dX4_covers_12 : decode cX4_covers 12 = .ok (.invokevirtual 45, 3) := by decide +kernel
theorem dX4_covers_15 : decode cX4_covers 15 = .ok (.ifCond .eq 7, 3) := by decide +kernel
theorem dX4_covers_18 : decode cX4_covers 18 = .ok (.iconst 1, 1) := by decide +kernel
theorem dX4_covers_19 : decode cX4_covers 19 = .ok (.goto 4, 3) := by decide +kernel
theorem dX4_covers_22 : decode cX4_covers 22 = .ok (.iconst 0, 1) := by decide +kernel
theorem dX4_covers_23 : decode cX4_covers 23 = .ok (.ireturn, 1) := by decide +kernel
theorem dX4_memberAt_0 : decode cX4_memberAt 0 = .ok (.iload_n 1, 1) := by decide +kernel
theorem dX4_memberAt_1 : decode cX4_memberAt 1 = .ok (.ifCond .lt 29, 3) := by decide +kernel
theorem dX4_memberAt_4 : decode cX4_memberAt 4 = .ok (.iload_n 1, 1) := by decide +kernel
theorem dX4_memberAt_5 : decode cX4_memberAt 5 = .ok (.aload_n 0, 1) := by decide +kernel
theorem dX4_memberAt_6 : decode cX4_memberAt 6 = .ok (.getfield 42, 3) := by decide +kernel
theorem dX4_memberAt_9 : decode cX4_memberAt 9 = .ok (.if_icmp .ge 21, 3) := by decide +kernel
theorem dX4_memberAt_12 : decode cX4_memberAt 12 = .ok (.iload_n 1, 1) := by decide +kernel
theorem dX4_memberAt_13 : decode cX4_memberAt 13 = .ok (.aload_n 0, 1) := by decide +kernel
theorem dX4_memberAt_14 : decode cX4_memberAt 14 = .ok (.getfield 18, 3) := by decide +kernel
theorem dX4_memberAt_17 : decode cX4_memberAt 17 = .ok (.arraylength, 1) := by decide +kernel
theorem dX4_memberAt_18 : decode cX4_memberAt 18 = .ok (.if_icmp .ge 12, 3) := by decide +kernel
theorem dX4_memberAt_21 : decode cX4_memberAt 21 = .ok (.aload_n 0, 1) := by decide +kernel
theorem dX4_memberAt_22 : decode cX4_memberAt 22 = .ok (.getfield 18, 3) := by decide +kernel
theorem dX4_memberAt_25 : decode cX4_memberAt 25 = .ok (.iload_n 1, 1) := by decide +kernel
theorem dX4_memberAt_26 : decode cX4_memberAt 26 = .ok (.iaload, 1) := by decide +kernel
theorem dX4_memberAt_27 : decode cX4_memberAt 27 = .ok (.goto 4, 3) := by decide +kernel
theorem dX4_memberAt_30 : decode cX4_memberAt 30 = .ok (.iconst (-1), 1) := by decide +kernel
theorem dX4_memberAt_31 : decode cX4_memberAt 31 = .ok (.ireturn, 1) := by decide +kernel
theorem dX4_placeOf_0 : decode cX4_placeOf 0 = .ok (.iconst 0, 1) := by decide +kernel
theorem dX4_placeOf_1 : decode cX4_placeOf 1 = .ok (.istore_n 2, 1) := by decide +kernel
theorem dX4_placeOf_2 : decode cX4_placeOf 2 = .ok (.iload_n 2, 1) := by decide +kernel
theorem dX4_placeOf_3 : decode cX4_placeOf 3 = .ok (.aload_n 0, 1) := by decide +kernel
theorem dX4_placeOf_4 : decode cX4_placeOf 4 = .ok (.getfield 42, 3) := by decide +kernel
theorem dX4_placeOf_7 : decode cX4_placeOf 7 = .ok (.if_icmp .ge 30, 3) := by decide +kernel
theorem dX4_placeOf_10 : decode cX4_placeOf 10 = .ok (.iload_n 2, 1) := by decide +kernel
theorem dX4_placeOf_11 : decode cX4_placeOf 11 = .ok (.aload_n 0, 1) := by decide +kernel
theorem dX4_placeOf_12 : decode cX4_placeOf 12 = .ok (.getfield 18, 3) := by decide +kernel
theorem dX4_placeOf_15 : decode cX4_placeOf 15 = .ok (.arraylength, 1) := by decide +kernel
theorem dX4_placeOf_16 : decode cX4_placeOf 16 = .ok (.if_icmp .ge 21, 3) := by decide +kernel
theorem dX4_placeOf_19 : decode cX4_placeOf 19 = .ok (.aload_n 0, 1) := by decide +kernel
theorem dX4_placeOf_20 : decode cX4_placeOf 20 = .ok (.getfield 18, 3) := by decide +kernel
theorem dX4_placeOf_23 : decode cX4_placeOf 23 = .ok (.iload_n 2, 1) := by decide +kernel
theorem dX4_placeOf_24 : decode cX4_placeOf 24 = .ok (.iaload, 1) := by decide +kernel
theorem dX4_placeOf_25 : decode cX4_placeOf 25 = .ok (.iload_n 1, 1) := by decide +kernel
theorem dX4_placeOf_26 : decode cX4_placeOf 26 = .ok (.if_icmp .ne 5, 3) := by decide +kernel
theorem dX4_placeOf_29 : decode cX4_placeOf 29 = .ok (.iload_n 2, 1) := by decide +kernel
theorem dX4_placeOf_30 : decode cX4_placeOf 30 = .ok (.ireturn, 1) := by decide +kernel
theorem dX4_placeOf_31 : decode cX4_placeOf 31 = .ok (.iinc 2 1, 3) := by decide +kernel
theorem dX4_placeOf_34 : decode cX4_placeOf 34 = .ok (.goto (-32), 3) := by decide +kernel
theorem dX4_placeOf_37 : decode cX4_placeOf 37 = .ok (.iconst (-1), 1) := by decide +kernel
theorem dX4_placeOf_38 : decode cX4_placeOf 38 = .ok (.ireturn, 1) := by decide +kernel
theorem dX4_add_0 : decode cX4_add 0 = .ok (.aload_n 0, 1) := by decide +kernel
theorem dX4_add_1 : decode cX4_add 1 = .ok (.iload_n 1, 1) := by decide +kernel
theorem dX4_add_2 : decode cX4_add 2 = .ok (.invokevirtual 49, 3) := by decide +kernel
theorem dX4_add_5 : decode cX4_add 5 = .ok (.iconst (-1), 1) := by decide +kernel
theorem dX4_add_6 : decode cX4_add 6 = .ok (.if_icmp .eq 6, 3) := by decide +kernel
theorem dX4_add_9 : decode cX4_add 9 = .ok (.bipush (-2), 2) := by decide +kernel
theorem dX4_add_11 : decode cX4_add 11 = .ok (.ireturn, 1) := by decide +kernel
theorem dX4_add_12 : decode cX4_add 12 = .ok (.aload_n 0, 1) := by decide +kernel
theorem dX4_add_13 : decode cX4_add 13 = .ok (.getfield 42, 3) := by decide +kernel
theorem dX4_add_16 : decode cX4_add 16 = .ok (.ifCond .lt 15, 3) := by decide +kernel
theorem dX4_add_19 : decode cX4_add 19 = .ok (.aload_n 0, 1) := by decide +kernel
theorem dX4_add_20 : decode cX4_add 20 = .ok (.getfield 42, 3) := by decide +kernel
theorem dX4_add_23 : decode cX4_add 23 = .ok (.aload_n 0, 1) := by decide +kernel
theorem dX4_add_24 : decode cX4_add 24 = .ok (.getfield 18, 3) := by decide +kernel
theorem dX4_add_27 : decode cX4_add 27 = .ok (.arraylength, 1) := by decide +kernel
theorem dX4_add_28 : decode cX4_add 28 = .ok (.if_icmp .lt 6, 3) := by decide +kernel
theorem dX4_add_31 : decode cX4_add 31 = .ok (.bipush (-3), 2) := by decide +kernel
theorem dX4_add_33 : decode cX4_add 33 = .ok (.ireturn, 1) := by decide +kernel
theorem dX4_add_34 : decode cX4_add 34 = .ok (.aload_n 0, 1) := by decide +kernel
theorem dX4_add_35 : decode cX4_add 35 = .ok (.getfield 18, 3) := by decide +kernel
theorem dX4_add_38 : decode cX4_add 38 = .ok (.aload_n 0, 1) := by decide +kernel
theorem dX4_add_39 : decode cX4_add 39 = .ok (.getfield 42, 3) := by decide +kernel
theorem dX4_add_42 : decode cX4_add 42 = .ok (.iload_n 1, 1) := by decide +kernel
theorem dX4_add_43 : decode cX4_add 43 = .ok (.iastore, 1) := by decide +kernel
theorem dX4_add_44 : decode cX4_add 44 = .ok (.aload_n 0, 1) := by decide +kernel
theorem dX4_add_45 : decode cX4_add 45 = .ok (.dup, 1) := by decide +kernel
theorem dX4_add_46 : decode cX4_add 46 = .ok (.getfield 42, 3) := by decide +kernel
theorem dX4_add_49 : decode cX4_add 49 = .ok (.iconst 1, 1) := by decide +kernel
theorem dX4_add_50 : decode cX4_add 50 = .ok (.iadd, 1) := by decide +kernel
theorem dX4_add_51 : decode cX4_add 51 = .ok (.putfield 42, 3) := by decide +kernel
theorem dX4_add_54 : decode cX4_add 54 = .ok (.aload_n 0, 1) := by decide +kernel
theorem dX4_add_55 : decode cX4_add 55 = .ok (.getfield 42, 3) := by decide +kernel
theorem dX4_add_58 : decode cX4_add 58 = .ok (.ireturn, 1) := by decide +kernel
theorem dX4_remove_0 : decode cX4_remove 0 = .ok (.aload_n 0, 1) := by decide +kernel
theorem dX4_remove_1 : decode cX4_remove 1 = .ok (.iload_n 1, 1) := by decide +kernel
theorem dX4_remove_2 : decode cX4_remove 2 = .ok (.invokevirtual 49, 3) := by decide +kernel
theorem dX4_remove_5 : decode cX4_remove 5 = .ok (.istore_n 2, 1) := by decide +kernel
theorem dX4_remove_6 : decode cX4_remove 6 = .ok (.iload_n 2, 1) := by decide +kernel
theorem dX4_remove_7 : decode cX4_remove 7 = .ok (.ifCond .ge 6, 3) := by decide +kernel
theorem dX4_remove_10 : decode cX4_remove 10 = .ok (.bipush (-2), 2) := by decide +kernel
theorem dX4_remove_12 : decode cX4_remove 12 = .ok (.ireturn, 1) := by decide +kernel
theorem dX4_remove_13 : decode cX4_remove 13 = .ok (.iload_n 2, 1) := by decide +kernel
theorem dX4_remove_14 : decode cX4_remove 14 = .ok (.istore_n 3, 1) := by decide +kernel
theorem dX4_remove_15 : decode cX4_remove 15 = .ok (.iload_n 3, 1) := by decide +kernel
theorem dX4_remove_16 : decode cX4_remove 16 = .ok (.iconst 1, 1) := by decide +kernel
theorem dX4_remove_17 : decode cX4_remove 17 = .ok (.iadd, 1) := by decide +kernel
theorem dX4_remove_18 : decode cX4_remove 18 = .ok (.aload_n 0, 1) := by decide +kernel
theorem dX4_remove_19 : decode cX4_remove 19 = .ok (.getfield 42, 3) := by decide +kernel
theorem dX4_remove_22 : decode cX4_remove 22 = .ok (.if_icmp .ge 34, 3) := by decide +kernel
theorem dX4_remove_25 : decode cX4_remove 25 = .ok (.iload_n 3, 1) := by decide +kernel
theorem dX4_remove_26 : decode cX4_remove 26 = .ok (.iconst 1, 1) := by decide +kernel
theorem dX4_remove_27 : decode cX4_remove 27 = .ok (.iadd, 1) := by decide +kernel
theorem dX4_remove_28 : decode cX4_remove 28 = .ok (.aload_n 0, 1) := by decide +kernel
theorem dX4_remove_29 : decode cX4_remove 29 = .ok (.getfield 18, 3) := by decide +kernel
theorem dX4_remove_32 : decode cX4_remove 32 = .ok (.arraylength, 1) := by decide +kernel
theorem dX4_remove_33 : decode cX4_remove 33 = .ok (.if_icmp .ge 23, 3) := by decide +kernel
theorem dX4_remove_36 : decode cX4_remove 36 = .ok (.aload_n 0, 1) := by decide +kernel
theorem dX4_remove_37 : decode cX4_remove 37 = .ok (.getfield 18, 3) := by decide +kernel
theorem dX4_remove_40 : decode cX4_remove 40 = .ok (.iload_n 3, 1) := by decide +kernel
theorem dX4_remove_41 : decode cX4_remove 41 = .ok (.aload_n 0, 1) := by decide +kernel
theorem dX4_remove_42 : decode cX4_remove 42 = .ok (.getfield 18, 3) := by decide +kernel
theorem dX4_remove_45 : decode cX4_remove 45 = .ok (.iload_n 3, 1) := by decide +kernel
theorem dX4_remove_46 : decode cX4_remove 46 = .ok (.iconst 1, 1) := by decide +kernel
theorem dX4_remove_47 : decode cX4_remove 47 = .ok (.iadd, 1) := by decide +kernel
theorem dX4_remove_48 : decode cX4_remove 48 = .ok (.iaload, 1) := by decide +kernel
theorem dX4_remove_49 : decode cX4_remove 49 = .ok (.iastore, 1) := by decide +kernel
theorem dX4_remove_50 : decode cX4_remove 50 = .ok (.iinc 3 1, 3) := by decide +kernel
theorem dX4_remove_53 : decode cX4_remove 53 = .ok (.goto (-38), 3) := by decide +kernel
theorem dX4_remove_56 : decode cX4_remove 56 = .ok (.aload_n 0, 1) := by decide +kernel
theorem dX4_remove_57 : decode cX4_remove 57 = .ok (.dup, 1) := by decide +kernel
theorem dX4_remove_58 : decode cX4_remove 58 = .ok (.getfield 42, 3) := by decide +kernel
theorem dX4_remove_61 : decode cX4_remove 61 = .ok (.iconst 1, 1) := by decide +kernel
theorem dX4_remove_62 : decode cX4_remove 62 = .ok (.isub, 1) := by decide +kernel
theorem dX4_remove_63 : decode cX4_remove 63 = .ok (.putfield 42, 3) := by decide +kernel
theorem dX4_remove_66 : decode cX4_remove 66 = .ok (.aload_n 0, 1) := by decide +kernel
theorem dX4_remove_67 : decode cX4_remove 67 = .ok (.getfield 42, 3) := by decide +kernel
theorem dX4_remove_70 : decode cX4_remove 70 = .ok (.ireturn, 1) := by decide +kernel
theorem dX5_init_0 : decode cX5_init 0 = .ok (.aload_n 0, 1) := by decide +kernel
theorem dX5_init_1 : decode cX5_init 1 = .ok (.invokespecial 3, 3) := by decide +kernel
theorem dX5_init_4 : decode cX5_init 4 = .ok (.aload_n 0, 1) := by decide +kernel
theorem dX5_init_5 : decode cX5_init 5 = .ok (.bipush 8, 2) := by decide +kernel
theorem dX5_init_7 : decode cX5_init 7 = .ok (.anewarray 9, 3) := by decide +kernel
theorem dX5_init_10 : decode cX5_init 10 = .ok (.putfield 11, 3) := by decide +kernel
theorem dX5_init_13 : decode cX5_init 13 = .ok (.aload_n 0, 1) := by decide +kernel
theorem dX5_init_14 : decode cX5_init 14 = .ok (.iconst 3, 1) := by decide +kernel
theorem dX5_init_15 : decode cX5_init 15 = .ok (.anewarray 17, 3) := by decide +kernel
theorem dX5_init_18 : decode cX5_init 18 = .ok (.putfield 19, 3) := by decide +kernel
theorem dX5_init_21 : decode cX5_init 21 = .ok (.aload_n 0, 1) := by decide +kernel
theorem dX5_init_22 : decode cX5_init 22 = .ok (.bipush 6, 2) := by decide +kernel
theorem dX5_init_24 : decode cX5_init 24 = .ok (.anewarray 23, 3) := by decide +kernel
theorem dX5_init_27 : decode cX5_init 27 = .ok (.putfield 25, 3) := by decide +kernel
theorem dX5_init_30 : decode cX5_init 30 = .ok (.iconst 0, 1) := by decide +kernel
theorem dX5_init_31 : decode cX5_init 31 = .ok (.istore_n 1, 1) := by decide +kernel
theorem dX5_init_32 : decode cX5_init 32 = .ok (.iload_n 1, 1) := by decide +kernel
theorem dX5_init_33 : decode cX5_init 33 = .ok (.aload_n 0, 1) := by decide +kernel
theorem dX5_init_34 : decode cX5_init 34 = .ok (.getfield 11, 3) := by decide +kernel
theorem dX5_init_37 : decode cX5_init 37 = .ok (.arraylength, 1) := by decide +kernel
theorem dX5_init_38 : decode cX5_init 38 = .ok (.if_icmp .ge 22, 3) := by decide +kernel
theorem dX5_init_41 : decode cX5_init 41 = .ok (.aload_n 0, 1) := by decide +kernel
theorem dX5_init_42 : decode cX5_init 42 = .ok (.getfield 11, 3) := by decide +kernel
theorem dX5_init_45 : decode cX5_init 45 = .ok (.iload_n 1, 1) := by decide +kernel
theorem dX5_init_46 : decode cX5_init 46 = .ok (.new 9, 3) := by decide +kernel
theorem dX5_init_49 : decode cX5_init 49 = .ok (.dup, 1) := by decide +kernel
theorem dX5_init_50 : decode cX5_init 50 = .ok (.invokespecial 29, 3) := by decide +kernel
theorem dX5_init_53 : decode cX5_init 53 = .ok (.aastore, 1) := by decide +kernel
theorem dX5_init_54 : decode cX5_init 54 = .ok (.iinc 1 1, 3) := by decide +kernel
theorem dX5_init_57 : decode cX5_init 57 = .ok (.goto (-25), 3) := by decide +kernel
theorem dX5_init_60 : decode cX5_init 60 = .ok (.iconst 0, 1) := by decide +kernel
theorem dX5_init_61 : decode cX5_init 61 = .ok (.istore_n 1, 1) := by decide +kernel
theorem dX5_init_62 : decode cX5_init 62 = .ok (.iload_n 1, 1) := by decide +kernel
theorem dX5_init_63 : decode cX5_init 63 = .ok (.aload_n 0, 1) := by decide +kernel
theorem dX5_init_64 : decode cX5_init 64 = .ok (.getfield 19, 3) := by decide +kernel
theorem dX5_init_67 : decode cX5_init 67 = .ok (.arraylength, 1) := by decide +kernel
theorem dX5_init_68 : decode cX5_init 68 = .ok (.if_icmp .ge 22, 3) := by decide +kernel
theorem dX5_init_71 : decode cX5_init 71 = .ok (.aload_n 0, 1) := by decide +kernel
theorem dX5_init_72 : decode cX5_init 72 = .ok (.getfield 19, 3) := by decide +kernel
theorem dX5_init_75 : decode cX5_init 75 = .ok (.iload_n 1, 1) := by decide +kernel
theorem dX5_init_76 : decode cX5_init 76 = .ok (.new 17, 3) := by decide +kernel
theorem dX5_init_79 : decode cX5_init 79 = .ok (.dup, 1) := by decide +kernel
theorem dX5_init_80 : decode cX5_init 80 = .ok (.invokespecial 30, 3) := by decide +kernel
theorem dX5_init_83 : decode cX5_init 83 = .ok (.aastore, 1) := by decide +kernel
theorem dX5_init_84 : decode cX5_init 84 = .ok (.iinc 1 1, 3) := by decide +kernel
theorem dX5_init_87 : decode cX5_init 87 = .ok (.goto (-25), 3) := by decide +kernel
theorem dX5_init_90 : decode cX5_init 90 = .ok (.iconst 0, 1) := by decide +kernel
theorem dX5_init_91 : decode cX5_init 91 = .ok (.istore_n 1, 1) := by decide +kernel
theorem dX5_init_92 : decode cX5_init 92 = .ok (.iload_n 1, 1) := by decide +kernel
theorem dX5_init_93 : decode cX5_init 93 = .ok (.aload_n 0, 1) := by decide +kernel
theorem dX5_init_94 : decode cX5_init 94 = .ok (.getfield 25, 3) := by decide +kernel
theorem dX5_init_97 : decode cX5_init 97 = .ok (.arraylength, 1) := by decide +kernel
theorem dX5_init_98 : decode cX5_init 98 = .ok (.if_icmp .ge 22, 3) := by decide +kernel
theorem dX5_init_101 : decode cX5_init 101 = .ok (.aload_n 0, 1) := by decide +kernel
theorem dX5_init_102 : decode cX5_init 102 = .ok (.getfield 25, 3) := by decide +kernel
theorem dX5_init_105 : decode cX5_init 105 = .ok (.iload_n 1, 1) := by decide +kernel
theorem dX5_init_106 : decode cX5_init 106 = .ok (.new 23, 3) := by decide +kernel
theorem dX5_init_109 : decode cX5_init 109 = .ok (.dup, 1) := by decide +kernel
theorem dX5_init_110 : decode cX5_init 110 = .ok (.invokespecial 31, 3) := by decide +kernel
theorem dX5_init_113 : decode cX5_init 113 = .ok (.aastore, 1) := by decide +kernel
theorem dX5_init_114 : decode cX5_init 114 = .ok (.iinc 1 1, 3) := by decide +kernel
theorem dX5_init_117 : decode cX5_init 117 = .ok (.goto (-25), 3) := by decide +kernel
theorem dX5_init_120 : decode cX5_init 120 = .ok (.return_, 1) := by decide +kernel
theorem dX5_copyFrom_0 : decode cX5_copyFrom 0 = .ok (.iconst 0, 1) := by decide +kernel
theorem dX5_copyFrom_1 : decode cX5_copyFrom 1 = .ok (.istore_n 2, 1) := by decide +kernel
theorem dX5_copyFrom_2 : decode cX5_copyFrom 2 = .ok (.iload_n 2, 1) := by decide +kernel
theorem dX5_copyFrom_3 : decode cX5_copyFrom 3 = .ok (.aload_n 0, 1) := by decide +kernel
theorem dX5_copyFrom_4 : decode cX5_copyFrom 4 = .ok (.getfield 11, 3) := by decide +kernel
theorem dX5_copyFrom_7 : decode cX5_copyFrom 7 = .ok (.arraylength, 1) := by decide +kernel
theorem dX5_copyFrom_8 : decode cX5_copyFrom 8 = .ok (.if_icmp .ge 33, 3) := by decide +kernel
theorem dX5_copyFrom_11 : decode cX5_copyFrom 11 = .ok (.iload_n 2, 1) := by decide +kernel
theorem dX5_copyFrom_12 : decode cX5_copyFrom 12 = .ok (.aload_n 1, 1) := by decide +kernel
theorem dX5_copyFrom_13 : decode cX5_copyFrom 13 = .ok (.getfield 11, 3) := by decide +kernel
theorem dX5_copyFrom_16 : decode cX5_copyFrom 16 = .ok (.arraylength, 1) := by decide +kernel
theorem dX5_copyFrom_17 : decode cX5_copyFrom 17 = .ok (.if_icmp .ge 24, 3) := by decide +kernel
theorem dX5_copyFrom_20 : decode cX5_copyFrom 20 = .ok (.aload_n 0, 1) := by decide +kernel
theorem dX5_copyFrom_21 : decode cX5_copyFrom 21 = .ok (.getfield 11, 3) := by decide +kernel
theorem dX5_copyFrom_24 : decode cX5_copyFrom 24 = .ok (.iload_n 2, 1) := by decide +kernel
theorem dX5_copyFrom_25 : decode cX5_copyFrom 25 = .ok (.aaload, 1) := by decide +kernel
theorem dX5_copyFrom_26 : decode cX5_copyFrom 26 = .ok (.aload_n 1, 1) := by decide +kernel
theorem dX5_copyFrom_27 : decode cX5_copyFrom 27 = .ok (.getfield 11, 3) := by decide +kernel
theorem dX5_copyFrom_30 : decode cX5_copyFrom 30 = .ok (.iload_n 2, 1) := by decide +kernel
theorem dX5_copyFrom_31 : decode cX5_copyFrom 31 = .ok (.aaload, 1) := by decide +kernel
theorem dX5_copyFrom_32 : decode cX5_copyFrom 32 = .ok (.invokevirtual 32, 3) := by decide +kernel
theorem dX5_copyFrom_35 : decode cX5_copyFrom 35 = .ok (.iinc 2 1, 3) := by decide +kernel
theorem dX5_copyFrom_38 : decode cX5_copyFrom 38 = .ok (.goto (-36), 3) := by decide +kernel
theorem dX5_copyFrom_41 : decode cX5_copyFrom 41 = .ok (.iconst 0, 1) := by decide +kernel
theorem dX5_copyFrom_42 : decode cX5_copyFrom 42 = .ok (.istore_n 2, 1) := by decide +kernel
theorem dX5_copyFrom_43 : decode cX5_copyFrom 43 = .ok (.iload_n 2, 1) := by decide +kernel
theorem dX5_copyFrom_44 : decode cX5_copyFrom 44 = .ok (.aload_n 0, 1) := by decide +kernel
theorem dX5_copyFrom_45 : decode cX5_copyFrom 45 = .ok (.getfield 19, 3) := by decide +kernel
theorem dX5_copyFrom_48 : decode cX5_copyFrom 48 = .ok (.arraylength, 1) := by decide +kernel
theorem dX5_copyFrom_49 : decode cX5_copyFrom 49 = .ok (.if_icmp .ge 33, 3) := by decide +kernel
theorem dX5_copyFrom_52 : decode cX5_copyFrom 52 = .ok (.iload_n 2, 1) := by decide +kernel
theorem dX5_copyFrom_53 : decode cX5_copyFrom 53 = .ok (.aload_n 1, 1) := by decide +kernel
theorem dX5_copyFrom_54 : decode cX5_copyFrom 54 = .ok (.getfield 19, 3) := by decide +kernel
theorem dX5_copyFrom_57 : decode cX5_copyFrom 57 = .ok (.arraylength, 1) := by decide +kernel
theorem dX5_copyFrom_58 : decode cX5_copyFrom 58 = .ok (.if_icmp .ge 24, 3) := by decide +kernel
theorem dX5_copyFrom_61 : decode cX5_copyFrom 61 = .ok (.aload_n 0, 1) := by decide +kernel
theorem dX5_copyFrom_62 : decode cX5_copyFrom 62 = .ok (.getfield 19, 3) := by decide +kernel
theorem dX5_copyFrom_65 : decode cX5_copyFrom 65 = .ok (.iload_n 2, 1) := by decide +kernel
theorem dX5_copyFrom_66 : decode cX5_copyFrom 66 = .ok (.aaload, 1) := by decide +kernel
theorem dX5_copyFrom_67 : decode cX5_copyFrom 67 = .ok (.aload_n 1, 1) := by decide +kernel
theorem dX5_copyFrom_68 : decode cX5_copyFrom 68 = .ok (.getfield 19, 3) := by decide +kernel
theorem dX5_copyFrom_71 : decode cX5_copyFrom 71 = .ok (.iload_n 2, 1) := by decide +kernel
theorem dX5_copyFrom_72 : decode cX5_copyFrom 72 = .ok (.aaload, 1) := by decide +kernel
theorem dX5_copyFrom_73 : decode cX5_copyFrom 73 = .ok (.invokevirtual 36, 3) := by decide +kernel
theorem dX5_copyFrom_76 : decode cX5_copyFrom 76 = .ok (.iinc 2 1, 3) := by decide +kernel
theorem dX5_copyFrom_79 : decode cX5_copyFrom 79 = .ok (.goto (-36), 3) := by decide +kernel
theorem dX5_copyFrom_82 : decode cX5_copyFrom 82 = .ok (.iconst 0, 1) := by decide +kernel
theorem dX5_copyFrom_83 : decode cX5_copyFrom 83 = .ok (.istore_n 2, 1) := by decide +kernel
theorem dX5_copyFrom_84 : decode cX5_copyFrom 84 = .ok (.iload_n 2, 1) := by decide +kernel
theorem dX5_copyFrom_85 : decode cX5_copyFrom 85 = .ok (.aload_n 0, 1) := by decide +kernel
theorem dX5_copyFrom_86 : decode cX5_copyFrom 86 = .ok (.getfield 25, 3) := by decide +kernel
theorem dX5_copyFrom_89 : decode cX5_copyFrom 89 = .ok (.arraylength, 1) := by decide +kernel
theorem dX5_copyFrom_90 : decode cX5_copyFrom 90 = .ok (.if_icmp .ge 33, 3) := by decide +kernel
theorem dX5_copyFrom_93 : decode cX5_copyFrom 93 = .ok (.iload_n 2, 1) := by decide +kernel
theorem dX5_copyFrom_94 : decode cX5_copyFrom 94 = .ok (.aload_n 1, 1) := by decide +kernel
theorem dX5_copyFrom_95 : decode cX5_copyFrom 95 = .ok (.getfield 25, 3) := by decide +kernel
theorem dX5_copyFrom_98 : decode cX5_copyFrom 98 = .ok (.arraylength, 1) := by decide +kernel
theorem dX5_copyFrom_99 : decode cX5_copyFrom 99 = .ok (.if_icmp .ge 24, 3) := by decide +kernel
theorem dX5_copyFrom_102 : decode cX5_copyFrom 102 = .ok (.aload_n 0, 1) := by decide +kernel
theorem dX5_copyFrom_103 : decode cX5_copyFrom 103 = .ok (.getfield 25, 3) := by decide +kernel
theorem dX5_copyFrom_106 : decode cX5_copyFrom 106 = .ok (.iload_n 2, 1) := by decide +kernel
theorem dX5_copyFrom_107 : decode cX5_copyFrom 107 = .ok (.aaload, 1) := by decide +kernel
theorem dX5_copyFrom_108 : decode cX5_copyFrom 108 = .ok (.aload_n 1, 1) := by decide +kernel
theorem dX5_copyFrom_109 : decode cX5_copyFrom 109 = .ok (.getfield 25, 3) := by decide +kernel
theorem dX5_copyFrom_112 : decode cX5_copyFrom 112 = .ok (.iload_n 2, 1) := by decide +kernel
theorem dX5_copyFrom_113 : decode cX5_copyFrom 113 = .ok (.aaload, 1) := by decide +kernel
theorem dX5_copyFrom_114 : decode cX5_copyFrom 114 = .ok (.invokevirtual 39, 3) := by decide +kernel
theorem dX5_copyFrom_117 : decode cX5_copyFrom 117 = .ok (.iinc 2 1, 3) := by decide +kernel
theorem dX5_copyFrom_120 : decode cX5_copyFrom 120 = .ok (.goto (-36), 3) := by decide +kernel
theorem dX5_copyFrom_123 : decode cX5_copyFrom 123 = .ok (.aload_n 0, 1) := by decide +kernel
theorem dX5_copyFrom_124 : decode cX5_copyFrom 124 = .ok (.aload_n 1, 1) := by decide +kernel
theorem dX5_copyFrom_125 : decode cX5_copyFrom 125 = .ok (.getfield 42, 3) := by decide +kernel
theorem dX5_copyFrom_128 : decode cX5_copyFrom 128 = .ok (.putfield 42, 3) := by decide +kernel
theorem dX5_copyFrom_131 : decode cX5_copyFrom 131 = .ok (.aload_n 0, 1) := by decide +kernel
theorem dX5_copyFrom_132 : decode cX5_copyFrom 132 = .ok (.aload_n 1, 1) := by decide +kernel
theorem dX5_copyFrom_133 : decode cX5_copyFrom 133 = .ok (.getfield 46, 3) := by decide +kernel
theorem dX5_copyFrom_136 : decode cX5_copyFrom 136 = .ok (.putfield 46, 3) := by decide +kernel
theorem dX5_copyFrom_139 : decode cX5_copyFrom 139 = .ok (.aload_n 0, 1) := by decide +kernel
theorem dX5_copyFrom_140 : decode cX5_copyFrom 140 = .ok (.aload_n 1, 1) := by decide +kernel
theorem dX5_copyFrom_141 : decode cX5_copyFrom 141 = .ok (.getfield 49, 3) := by decide +kernel
theorem dX5_copyFrom_144 : decode cX5_copyFrom 144 = .ok (.putfield 49, 3) := by decide +kernel
theorem dX5_copyFrom_147 : decode cX5_copyFrom 147 = .ok (.return_, 1) := by decide +kernel
theorem dX5_hasPerson_0 : decode cX5_hasPerson 0 = .ok (.iload_n 1, 1) := by decide +kernel
theorem dX5_hasPerson_1 : decode cX5_hasPerson 1 = .ok (.ifCond .lt 24, 3) := by decide +kernel
theorem dX5_hasPerson_4 : decode cX5_hasPerson 4 = .ok (.iload_n 1, 1) := by decide +kernel
theorem dX5_hasPerson_5 : decode cX5_hasPerson 5 = .ok (.aload_n 0, 1) := by decide +kernel
theorem dX5_hasPerson_6 : decode cX5_hasPerson 6 = .ok (.getfield 42, 3) := by decide +kernel
theorem dX5_hasPerson_9 : decode cX5_hasPerson 9 = .ok (.if_icmp .ge 16, 3) := by decide +kernel
theorem dX5_hasPerson_12 : decode cX5_hasPerson 12 = .ok (.iload_n 1, 1) := by decide +kernel
theorem dX5_hasPerson_13 : decode cX5_hasPerson 13 = .ok (.aload_n 0, 1) := by decide +kernel
theorem dX5_hasPerson_14 : decode cX5_hasPerson 14 = .ok (.getfield 11, 3) := by decide +kernel
theorem dX5_hasPerson_17 : decode cX5_hasPerson 17 = .ok (.arraylength, 1) := by decide +kernel
theorem dX5_hasPerson_18 : decode cX5_hasPerson 18 = .ok (.if_icmp .ge 7, 3) := by decide +kernel
theorem dX5_hasPerson_21 : decode cX5_hasPerson 21 = .ok (.iconst 1, 1) := by decide +kernel
theorem dX5_hasPerson_22 : decode cX5_hasPerson 22 = .ok (.goto 4, 3) := by decide +kernel
theorem dX5_hasPerson_25 : decode cX5_hasPerson 25 = .ok (.iconst 0, 1) := by decide +kernel
theorem dX5_hasPerson_26 : decode cX5_hasPerson 26 = .ok (.ireturn, 1) := by decide +kernel
theorem dX5_hasRegion_0 : decode cX5_hasRegion 0 = .ok (.iload_n 1, 1) := by decide +kernel
theorem dX5_hasRegion_1 : decode cX5_hasRegion 1 = .ok (.ifCond .lt 24, 3) := by decide +kernel
theorem dX5_hasRegion_4 : decode cX5_hasRegion 4 = .ok (.iload_n 1, 1) := by decide +kernel
theorem dX5_hasRegion_5 : decode cX5_hasRegion 5 = .ok (.aload_n 0, 1) := by decide +kernel
theorem dX5_hasRegion_6 : decode cX5_hasRegion 6 = .ok (.getfield 46, 3) := by decide +kernel
theorem dX5_hasRegion_9 : decode cX5_hasRegion 9 = .ok (.if_icmp .ge 16, 3) := by decide +kernel
theorem dX5_hasRegion_12 : decode cX5_hasRegion 12 = .ok (.iload_n 1, 1) := by decide +kernel
theorem dX5_hasRegion_13 : decode cX5_hasRegion 13 = .ok (.aload_n 0, 1) := by decide +kernel
theorem dX5_hasRegion_14 : decode cX5_hasRegion 14 = .ok (.getfield 19, 3) := by decide +kernel
theorem dX5_hasRegion_17 : decode cX5_hasRegion 17 = .ok (.arraylength, 1) := by decide +kernel
theorem dX5_hasRegion_18 : decode cX5_hasRegion 18 = .ok (.if_icmp .ge 7, 3) := by decide +kernel
theorem dX5_hasRegion_21 : decode cX5_hasRegion 21 = .ok (.iconst 1, 1) := by decide +kernel
theorem dX5_hasRegion_22 : decode cX5_hasRegion 22 = .ok (.goto 4, 3) := by decide +kernel
theorem dX5_hasRegion_25 : decode cX5_hasRegion 25 = .ok (.iconst 0, 1) := by decide +kernel
theorem dX5_hasRegion_26 : decode cX5_hasRegion 26 = .ok (.ireturn, 1) := by decide +kernel
theorem dX5_addPerson_0 : decode cX5_addPerson 0 = .ok (.aload_n 0, 1) := by decide +kernel
theorem dX5_addPerson_1 : decode cX5_addPerson 1 = .ok (.getfield 42, 3) := by decide +kernel
theorem dX5_addPerson_4 : decode cX5_addPerson 4 = .ok (.istore_n 1, 1) := by decide +kernel
theorem dX5_addPerson_5 : decode cX5_addPerson 5 = .ok (.iload_n 1, 1) := by decide +kernel
theorem dX5_addPerson_6 : decode cX5_addPerson 6 = .ok (.ifCond .lt 12, 3) := by decide +kernel
theorem dX5_addPerson_9 : decode cX5_addPerson 9 = .ok (.iload_n 1, 1) := by decide +kernel
theorem dX5_addPerson_10 : decode cX5_addPerson 10 = .ok (.aload_n 0, 1) := by decide +kernel
theorem dX5_addPerson_11 : decode cX5_addPerson 11 = .ok (.getfield 11, 3) := by decide +kernel
theorem dX5_addPerson_14 : decode cX5_addPerson 14 = .ok (.arraylength, 1) := by decide +kernel
theorem dX5_addPerson_15 : decode cX5_addPerson 15 = .ok (.if_icmp .lt 6, 3) := by decide +kernel
theorem dX5_addPerson_18 : decode cX5_addPerson 18 = .ok (.bipush (-3), 2) := by decide +kernel
theorem dX5_addPerson_20 : decode cX5_addPerson 20 = .ok (.ireturn, 1) := by decide +kernel
theorem dX5_addPerson_21 : decode cX5_addPerson 21 = .ok (.aload_n 0, 1) := by decide +kernel
theorem dX5_addPerson_22 : decode cX5_addPerson 22 = .ok (.dup, 1) := by decide +kernel
theorem dX5_addPerson_23 : decode cX5_addPerson 23 = .ok (.getfield 42, 3) := by decide +kernel
theorem dX5_addPerson_26 : decode cX5_addPerson 26 = .ok (.iconst 1, 1) := by decide +kernel
theorem dX5_addPerson_27 : decode cX5_addPerson 27 = .ok (.iadd, 1) := by decide +kernel
theorem dX5_addPerson_28 : decode cX5_addPerson 28 = .ok (.putfield 42, 3) := by decide +kernel
theorem dX5_addPerson_31 : decode cX5_addPerson 31 = .ok (.iload_n 1, 1) := by decide +kernel
theorem dX5_addPerson_32 : decode cX5_addPerson 32 = .ok (.ireturn, 1) := by decide +kernel
theorem dX5_addRegion_0 : decode cX5_addRegion 0 = .ok (.iload_n 1, 1) := by decide +kernel
theorem dX5_addRegion_1 : decode cX5_addRegion 1 = .ok (.invokestatic 52, 3) := by decide +kernel
theorem dX5_addRegion_4 : decode cX5_addRegion 4 = .ok (.ifCond .eq 26, 3) := by decide +kernel
theorem dX5_addRegion_7 : decode cX5_addRegion 7 = .ok (.iload_n 2, 1) := by decide +kernel
theorem dX5_addRegion_8 : decode cX5_addRegion 8 = .ok (.invokestatic 52, 3) := by decide +kernel
theorem dX5_addRegion_11 : decode cX5_addRegion 11 = .ok (.ifCond .eq 19, 3) := by decide +kernel
theorem dX5_addRegion_14 : decode cX5_addRegion 14 = .ok (.iload_n 1, 1) := by decide +kernel
theorem dX5_addRegion_15 : decode cX5_addRegion 15 = .ok (.iload_n 2, 1) := by decide +kernel
theorem dX5_addRegion_16 : decode cX5_addRegion 16 = .ok (.if_icmp .eq 14, 3) := by decide +kernel
theorem dX5_addRegion_19 : decode cX5_addRegion 19 = .ok (.iload_n 3, 1) := by decide +kernel
theorem dX5_addRegion_20 : decode cX5_addRegion 20 = .ok (.iconst 1, 1) := by decide +kernel
theorem dX5_addRegion_21 : decode cX5_addRegion 21 = .ok (.if_icmp .lt 9, 3) := by decide +kernel
theorem dX5_addRegion_24 : decode cX5_addRegion 24 = .ok (.iload_n 3, 1) := by decide +kernel
theorem dX5_addRegion_25 : decode cX5_addRegion 25 = .ok (.bipush 24, 2) := by decide +kernel
theorem dX5_addRegion_27 : decode cX5_addRegion 27 = .ok (.if_icmp .le 5, 3) := by decide +kernel
theorem dX5_addRegion_30 : decode cX5_addRegion 30 = .ok (.iconst (-1), 1) := by decide +kernel
theorem dX5_addRegion_31 : decode cX5_addRegion 31 = .ok (.ireturn, 1) := by decide +kernel
theorem dX5_addRegion_32 : decode cX5_addRegion 32 = .ok (.aload_n 0, 1) := by decide +kernel
theorem dX5_addRegion_33 : decode cX5_addRegion 33 = .ok (.getfield 46, 3) := by decide +kernel
theorem dX5_addRegion_36 : decode cX5_addRegion 36 = .ok (.istore 4, 2) := by decide +kernel
theorem dX5_addRegion_38 : decode cX5_addRegion 38 = .ok (.iload 4, 2) := by decide +kernel
theorem dX5_addRegion_40 : decode cX5_addRegion 40 = .ok (.ifCond .lt 13, 3) := by decide +kernel
theorem dX5_addRegion_43 : decode cX5_addRegion 43 = .ok (.iload 4, 2) := by decide +kernel
theorem dX5_addRegion_45 : decode cX5_addRegion 45 = .ok (.aload_n 0, 1) := by decide +kernel
theorem dX5_addRegion_46 : decode cX5_addRegion 46 = .ok (.getfield 19, 3) := by decide +kernel
theorem dX5_addRegion_49 : decode cX5_addRegion 49 = .ok (.arraylength, 1) := by decide +kernel
theorem dX5_addRegion_50 : decode cX5_addRegion 50 = .ok (.if_icmp .lt 6, 3) := by decide +kernel
theorem dX5_addRegion_53 : decode cX5_addRegion 53 = .ok (.bipush (-3), 2) := by decide +kernel
theorem dX5_addRegion_55 : decode cX5_addRegion 55 = .ok (.ireturn, 1) := by decide +kernel
theorem dX5_addRegion_56 : decode cX5_addRegion 56 = .ok (.aload_n 0, 1) := by decide +kernel
theorem dX5_addRegion_57 : decode cX5_addRegion 57 = .ok (.getfield 19, 3) := by decide +kernel
theorem dX5_addRegion_60 : decode cX5_addRegion 60 = .ok (.iload 4, 2) := by decide +kernel
theorem dX5_addRegion_62 : decode cX5_addRegion 62 = .ok (.aaload, 1) := by decide +kernel
theorem dX5_addRegion_63 : decode cX5_addRegion 63 = .ok (.iload_n 1, 1) := by decide +kernel
theorem dX5_addRegion_64 : decode cX5_addRegion 64 = .ok (.iload_n 2, 1) := by decide +kernel
theorem dX5_addRegion_65 : decode cX5_addRegion 65 = .ok (.iload_n 3, 1) := by decide +kernel
theorem dX5_addRegion_66 : decode cX5_addRegion 66 = .ok (.invokevirtual 58, 3) := by decide +kernel
theorem dX5_addRegion_69 : decode cX5_addRegion 69 = .ok (.aload_n 0, 1) := by decide +kernel
theorem dX5_addRegion_70 : decode cX5_addRegion 70 = .ok (.dup, 1) := by decide +kernel
theorem dX5_addRegion_71 : decode cX5_addRegion 71 = .ok (.getfield 46, 3) := by decide +kernel
theorem dX5_addRegion_74 : decode cX5_addRegion 74 = .ok (.iconst 1, 1) := by decide +kernel
theorem dX5_addRegion_75 : decode cX5_addRegion 75 = .ok (.iadd, 1) := by decide +kernel
theorem dX5_addRegion_76 : decode cX5_addRegion 76 = .ok (.putfield 46, 3) := by decide +kernel
theorem dX5_addRegion_79 : decode cX5_addRegion 79 = .ok (.iload 4, 2) := by decide +kernel
theorem dX5_addRegion_81 : decode cX5_addRegion 81 = .ok (.ireturn, 1) := by decide +kernel
theorem dX5_letJoin_0 : decode cX5_letJoin 0 = .ok (.aload_n 0, 1) := by decide +kernel
theorem dX5_letJoin_1 : decode cX5_letJoin 1 = .ok (.iload_n 1, 1) := by decide +kernel
theorem dX5_letJoin_2 : decode cX5_letJoin 2 = .ok (.invokevirtual 62, 3) := by decide +kernel
theorem dX5_letJoin_5 : decode cX5_letJoin 5 = .ok (.ifCond .eq 11, 3) := by decide +kernel
theorem dX5_letJoin_8 : decode cX5_letJoin 8 = .ok (.aload_n 0, 1) := by decide +kernel
theorem dX5_letJoin_9 : decode cX5_letJoin 9 = .ok (.iload_n 2, 1) := by decide +kernel
theorem dX5_letJoin_10 : decode cX5_letJoin 10 = .ok (.invokevirtual 65, 3) := by decide +kernel
theorem dX5_letJoin_13 : decode cX5_letJoin 13 = .ok (.ifCond .ne 5, 3) := by decide +kernel
theorem dX5_letJoin_16 : decode cX5_letJoin 16 = .ok (.iconst (-1), 1) := by decide +kernel
theorem dX5_letJoin_17 : decode cX5_letJoin 17 = .ok (.ireturn, 1) := by decide +kernel
theorem dX5_letJoin_18 : decode cX5_letJoin 18 = .ok (.aload_n 0, 1) := by decide +kernel
theorem dX5_letJoin_19 : decode cX5_letJoin 19 = .ok (.getfield 19, 3) := by decide +kernel
theorem dX5_letJoin_22 : decode cX5_letJoin 22 = .ok (.iload_n 1, 1) := by decide +kernel
theorem dX5_letJoin_23 : decode cX5_letJoin 23 = .ok (.aaload, 1) := by decide +kernel
theorem dX5_letJoin_24 : decode cX5_letJoin 24 = .ok (.iload_n 2, 1) := by decide +kernel
theorem dX5_letJoin_25 : decode cX5_letJoin 25 = .ok (.invokevirtual 68, 3) := by decide +kernel
theorem dX5_letJoin_28 : decode cX5_letJoin 28 = .ok (.ireturn, 1) := by decide +kernel
theorem dX5_letLeave_0 : decode cX5_letLeave 0 = .ok (.aload_n 0, 1) := by decide +kernel
theorem dX5_letLeave_1 : decode cX5_letLeave 1 = .ok (.iload_n 1, 1) := by decide +kernel
theorem dX5_letLeave_2 : decode cX5_letLeave 2 = .ok (.invokevirtual 62, 3) := by decide +kernel
theorem dX5_letLeave_5 : decode cX5_letLeave 5 = .ok (.ifCond .eq 11, 3) := by decide +kernel
theorem dX5_letLeave_8 : decode cX5_letLeave 8 = .ok (.aload_n 0, 1) := by decide +kernel
theorem dX5_letLeave_9 : decode cX5_letLeave 9 = .ok (.iload_n 2, 1) := by decide +kernel
theorem dX5_letLeave_10 : decode cX5_letLeave 10 = .ok (.invokevirtual 65, 3) := by decide +kernel
theorem dX5_letLeave_13 : decode cX5_letLeave 13 = .ok (.ifCond .ne 5, 3) := by decide +kernel
theorem dX5_letLeave_16 : decode cX5_letLeave 16 = .ok (.iconst (-1), 1) := by decide +kernel
theorem dX5_letLeave_17 : decode cX5_letLeave 17 = .ok (.ireturn, 1) := by decide +kernel
theorem dX5_letLeave_18 : decode cX5_letLeave 18 = .ok (.aload_n 0, 1) := by decide +kernel
theorem dX5_letLeave_19 : decode cX5_letLeave 19 = .ok (.getfield 19, 3) := by decide +kernel
theorem dX5_letLeave_22 : decode cX5_letLeave 22 = .ok (.iload_n 1, 1) := by decide +kernel
theorem dX5_letLeave_23 : decode cX5_letLeave 23 = .ok (.aaload, 1) := by decide +kernel
theorem dX5_letLeave_24 : decode cX5_letLeave 24 = .ok (.iload_n 2, 1) := by decide +kernel
theorem dX5_letLeave_25 : decode cX5_letLeave 25 = .ok (.invokevirtual 72, 3) := by decide +kernel
theorem dX5_letLeave_28 : decode cX5_letLeave 28 = .ok (.ireturn, 1) := by decide +kernel
theorem dX5_putQuietHours_0 : decode cX5_putQuietHours 0 = .ok (.aload_n 0, 1) := by decide +kernel
theorem dX5_putQuietHours_1 : decode cX5_putQuietHours 1 = .ok (.iload_n 1, 1) := by decide +kernel
theorem dX5_putQuietHours_2 : decode cX5_putQuietHours 2 = .ok (.invokevirtual 65, 3) := by decide +kernel
theorem dX5_putQuietHours_5 : decode cX5_putQuietHours 5 = .ok (.ifCond .eq 17, 3) := by decide +kernel
theorem dX5_putQuietHours_8 : decode cX5_putQuietHours 8 = .ok (.iload_n 2, 1) := by decide +kernel
theorem dX5_putQuietHours_9 : decode cX5_putQuietHours 9 = .ok (.invokestatic 52, 3) := by decide +kernel
theorem dX5_putQuietHours_12 : decode cX5_putQuietHours 12 = .ok (.ifCond .eq 10, 3) := by decide +kernel
theorem dX5_putQuietHours_15 : decode cX5_putQuietHours 15 = .ok (.iload_n 3, 1) := by decide +kernel
theorem dX5_putQuietHours_16 : decode cX5_putQuietHours 16 = .ok (.invokestatic 52, 3) := by decide +kernel
theorem dX5_putQuietHours_19 : decode cX5_putQuietHours 19 = .ok (.ifCond .ne 5, 3) := by decide +kernel
theorem dX5_putQuietHours_22 : decode cX5_putQuietHours 22 = .ok (.iconst (-1), 1) := by decide +kernel
theorem dX5_putQuietHours_23 : decode cX5_putQuietHours 23 = .ok (.ireturn, 1) := by decide +kernel
theorem dX5_putQuietHours_24 : decode cX5_putQuietHours 24 = .ok (.aload_n 0, 1) := by decide +kernel
theorem dX5_putQuietHours_25 : decode cX5_putQuietHours 25 = .ok (.getfield 11, 3) := by decide +kernel
theorem dX5_putQuietHours_28 : decode cX5_putQuietHours 28 = .ok (.iload_n 1, 1) := by decide +kernel
theorem dX5_putQuietHours_29 : decode cX5_putQuietHours 29 = .ok (.aaload, 1) := by decide +kernel
theorem dX5_putQuietHours_30 : decode cX5_putQuietHours 30 = .ok (.getfield 75, 3) := by decide +kernel
theorem dX5_putQuietHours_33 : decode cX5_putQuietHours 33 = .ok (.iload_n 2, 1) := by decide +kernel
theorem dX5_putQuietHours_34 : decode cX5_putQuietHours 34 = .ok (.iload_n 3, 1) := by decide +kernel
theorem dX5_putQuietHours_35 : decode cX5_putQuietHours 35 = .ok (.invokevirtual 79, 3) := by decide +kernel
theorem dX5_putQuietHours_38 : decode cX5_putQuietHours 38 = .ok (.aload_n 0, 1) := by decide +kernel
theorem dX5_putQuietHours_39 : decode cX5_putQuietHours 39 = .ok (.getfield 11, 3) := by decide +kernel
theorem dX5_putQuietHours_42 : decode cX5_putQuietHours 42 = .ok (.iload_n 1, 1) := by decide +kernel
theorem dX5_putQuietHours_43 : decode cX5_putQuietHours 43 = .ok (.aaload, 1) := by decide +kernel
theorem dX5_putQuietHours_44 : decode cX5_putQuietHours 44 = .ok (.getfield 75, 3) := by decide +kernel
theorem dX5_putQuietHours_47 : decode cX5_putQuietHours 47 = .ok (.invokevirtual 82, 3) := by decide +kernel
theorem dX5_putQuietHours_50 : decode cX5_putQuietHours 50 = .ok (.ireturn, 1) := by decide +kernel
theorem dX5_turnException_0 : decode cX5_turnException 0 = .ok (.aload_n 0, 1) := by decide +kernel
theorem dX5_turnException_1 : decode cX5_turnException 1 = .ok (.iload_n 1, 1) := by decide +kernel
theorem dX5_turnException_2 : decode cX5_turnException 2 = .ok (.invokevirtual 65, 3) := by decide +kernel
theorem dX5_turnException_5 : decode cX5_turnException 5 = .ok (.ifCond .eq 13, 3) := by decide +kernel
theorem dX5_turnException_8 : decode cX5_turnException 8 = .ok (.iload_n 2, 1) := by decide +kernel
theorem dX5_turnException_9 : decode cX5_turnException 9 = .ok (.ifCond .lt 9, 3) := by decide +kernel
theorem dX5_turnException_12 : decode cX5_turnException 12 = .ok (.iload_n 2, 1) := by decide +kernel
theorem dX5_turnException_13 : decode cX5_turnException 13 = .ok (.bipush 20, 2) := by decide +kernel
theorem dX5_turnException_15 : decode cX5_turnException 15 = .ok (.if_icmp .lt 5, 3) := by decide +kernel
theorem dX5_turnException_18 : decode cX5_turnException 18 = .ok (.iconst (-1), 1) := by decide +kernel
theorem dX5_turnException_19 : decode cX5_turnException 19 = .ok (.ireturn, 1) := by decide +kernel
theorem dX5_turnException_20 : decode cX5_turnException 20 = .ok (.aload_n 0, 1) := by decide +kernel
theorem dX5_turnException_21 : decode cX5_turnException 21 = .ok (.getfield 11, 3) := by decide +kernel
theorem dX5_turnException_24 : decode cX5_turnException 24 = .ok (.iload_n 1, 1) := by decide +kernel
theorem dX5_turnException_25 : decode cX5_turnException 25 = .ok (.aaload, 1) := by decide +kernel
theorem dX5_turnException_26 : decode cX5_turnException 26 = .ok (.dup, 1) := by decide +kernel
theorem dX5_turnException_27 : decode cX5_turnException 27 = .ok (.getfield 86, 3) := by decide +kernel
theorem dX5_turnException_30 : decode cX5_turnException 30 = .ok (.iconst 1, 1) := by decide +kernel
theorem dX5_turnException_31 : decode cX5_turnException 31 = .ok (.iload_n 2, 1) := by decide +kernel
theorem dX5_turnException_32 : decode cX5_turnException 32 = .ok (.ishl, 1) := by decide +kernel
theorem dX5_turnException_33 : decode cX5_turnException 33 = .ok (.ixor, 1) := by decide +kernel
theorem dX5_turnException_34 : decode cX5_turnException 34 = .ok (.putfield 86, 3) := by decide +kernel
theorem dX5_turnException_37 : decode cX5_turnException 37 = .ok (.aload_n 0, 1) := by decide +kernel
theorem dX5_turnException_38 : decode cX5_turnException 38 = .ok (.getfield 11, 3) := by decide +kernel
theorem dX5_turnException_41 : decode cX5_turnException 41 = .ok (.iload_n 1, 1) := by decide +kernel
theorem dX5_turnException_42 : decode cX5_turnException 42 = .ok (.aaload, 1) := by decide +kernel
theorem dX5_turnException_43 : decode cX5_turnException 43 = .ok (.getfield 86, 3) := by decide +kernel
theorem dX5_turnException_46 : decode cX5_turnException 46 = .ok (.invokestatic 89, 3) := by decide +kernel
theorem dX5_turnException_49 : decode cX5_turnException 49 = .ok (.ireturn, 1) := by decide +kernel
theorem dX5_regionsOf_0 : decode cX5_regionsOf 0 = .ok (.iconst 0, 1) := by decide +kernel
theorem dX5_regionsOf_1 : decode cX5_regionsOf 1 = .ok (.istore_n 2, 1) := by decide +kernel
theorem dX5_regionsOf_2 : decode cX5_regionsOf 2 = .ok (.iconst 0, 1) := by decide +kernel
theorem dX5_regionsOf_3 : decode cX5_regionsOf 3 = .ok (.istore_n 3, 1) := by decide +kernel
theorem dX5_regionsOf_4 : decode cX5_regionsOf 4 = .ok (.iload_n 3, 1) := by decide +kernel
theorem dX5_regionsOf_5 : decode cX5_regionsOf 5 = .ok (.aload_n 0, 1) := by decide +kernel
theorem dX5_regionsOf_6 : decode cX5_regionsOf 6 = .ok (.getfield 46, 3) := by decide +kernel
theorem dX5_regionsOf_9 : decode cX5_regionsOf 9 = .ok (.if_icmp .ge 38, 3) := by decide +kernel
theorem dX5_regionsOf_12 : decode cX5_regionsOf 12 = .ok (.iload_n 3, 1) := by decide +kernel
theorem dX5_regionsOf_13 : decode cX5_regionsOf 13 = .ok (.aload_n 0, 1) := by decide +kernel
theorem dX5_regionsOf_14 : decode cX5_regionsOf 14 = .ok (.getfield 19, 3) := by decide +kernel
theorem dX5_regionsOf_17 : decode cX5_regionsOf 17 = .ok (.arraylength, 1) := by decide +kernel
theorem dX5_regionsOf_18 : decode cX5_regionsOf 18 = .ok (.if_icmp .ge 29, 3) := by decide +kernel
theorem dX5_regionsOf_21 : decode cX5_regionsOf 21 = .ok (.aload_n 0, 1) := by decide +kernel
theorem dX5_regionsOf_22 : decode cX5_regionsOf 22 = .ok (.getfield 19, 3) := by decide +kernel
theorem dX5_regionsOf_25 : decode cX5_regionsOf 25 = .ok (.iload_n 3, 1) := by decide +kernel
theorem dX5_regionsOf_26 : decode cX5_regionsOf 26 = .ok (.aaload, 1) := by decide +kernel
theorem dX5_regionsOf_27 : decode cX5_regionsOf 27 = .ok (.iload_n 1, 1) := by decide +kernel
theorem dX5_regionsOf_28 : decode cX5_regionsOf 28 = .ok (.invokevirtual 94, 3) := by decide +kernel
theorem dX5_regionsOf_31 : decode cX5_regionsOf 31 = .ok (.iconst (-1), 1) := by decide +kernel
theorem dX5_regionsOf_32 : decode cX5_regionsOf 32 = .ok (.if_icmp .eq 9, 3) := by decide +kernel
theorem dX5_regionsOf_35 : decode cX5_regionsOf 35 = .ok (.iload_n 2, 1) := by decide +kernel
theorem dX5_regionsOf_36 : decode cX5_regionsOf 36 = .ok (.iconst 1, 1) := by decide +kernel
theorem dX5_regionsOf_37 : decode cX5_regionsOf 37 = .ok (.iload_n 3, 1) := by decide +kernel
theorem dX5_regionsOf_38 : decode cX5_regionsOf 38 = .ok (.ishl, 1) := by decide +kernel
theorem dX5_regionsOf_39 : decode cX5_regionsOf 39 = .ok (.ior, 1) := by decide +kernel
theorem dX5_regionsOf_40 : decode cX5_regionsOf 40 = .ok (.istore_n 2, 1) := by decide +kernel
theorem dX5_regionsOf_41 : decode cX5_regionsOf 41 = .ok (.iinc 3 1, 3) := by decide +kernel
theorem dX5_regionsOf_44 : decode cX5_regionsOf 44 = .ok (.goto (-40), 3) := by decide +kernel
theorem dX5_regionsOf_47 : decode cX5_regionsOf 47 = .ok (.iload_n 2, 1) := by decide +kernel
theorem dX5_regionsOf_48 : decode cX5_regionsOf 48 = .ok (.ireturn, 1) := by decide +kernel
theorem dX5_standInsAt_0 : decode cX5_standInsAt 0 = .ok (.iconst 0, 1) := by decide +kernel
theorem dX5_standInsAt_1 : decode cX5_standInsAt 1 = .ok (.istore_n 2, 1) := by decide +kernel
theorem dX5_standInsAt_2 : decode cX5_standInsAt 2 = .ok (.iconst 0, 1) := by decide +kernel
theorem dX5_standInsAt_3 : decode cX5_standInsAt 3 = .ok (.istore_n 3, 1) := by decide +kernel
theorem dX5_standInsAt_4 : decode cX5_standInsAt 4 = .ok (.iload_n 3, 1) := by decide +kernel
theorem dX5_standInsAt_5 : decode cX5_standInsAt 5 = .ok (.aload_n 0, 1) := by decide +kernel
theorem dX5_standInsAt_6 : decode cX5_standInsAt 6 = .ok (.getfield 49, 3) := by decide +kernel
theorem dX5_standInsAt_9 : decode cX5_standInsAt 9 = .ok (.if_icmp .ge 34, 3) := by decide +kernel
theorem dX5_standInsAt_12 : decode cX5_standInsAt 12 = .ok (.iload_n 3, 1) := by decide +kernel
theorem dX5_standInsAt_13 : decode cX5_standInsAt 13 = .ok (.aload_n 0, 1) := by decide +kernel
theorem dX5_standInsAt_14 : decode cX5_standInsAt 14 = .ok (.getfield 25, 3) := by decide +kernel
theorem dX5_standInsAt_17 : decode cX5_standInsAt 17 = .ok (.arraylength, 1) := by decide +kernel
theorem dX5_standInsAt_18 : decode cX5_standInsAt 18 = .ok (.if_icmp .ge 25, 3) := by decide +kernel
theorem dX5_standInsAt_21 : decode cX5_standInsAt 21 = .ok (.aload_n 0, 1) := by decide +kernel
theorem dX5_standInsAt_22 : decode cX5_standInsAt 22 = .ok (.getfield 25, 3) := by decide +kernel
theorem dX5_standInsAt_25 : decode cX5_standInsAt 25 = .ok (.iload_n 3, 1) := by decide +kernel
theorem dX5_standInsAt_26 : decode cX5_standInsAt 26 = .ok (.aaload, 1) := by decide +kernel
theorem dX5_standInsAt_27 : decode cX5_standInsAt 27 = .ok (.iload_n 1, 1) := by decide +kernel
theorem dX5_standInsAt_28 : decode cX5_standInsAt 28 = .ok (.invokevirtual 97, 3) := by decide +kernel
theorem dX5_standInsAt_31 : decode cX5_standInsAt 31 = .ok (.ifCond .eq 6, 3) := by decide +kernel
theorem dX5_standInsAt_34 : decode cX5_standInsAt 34 = .ok (.iinc 2 1, 3) := by decide +kernel
theorem dX5_standInsAt_37 : decode cX5_standInsAt 37 = .ok (.iinc 3 1, 3) := by decide +kernel
theorem dX5_standInsAt_40 : decode cX5_standInsAt 40 = .ok (.goto (-36), 3) := by decide +kernel
theorem dX5_standInsAt_43 : decode cX5_standInsAt 43 = .ok (.iload_n 2, 1) := by decide +kernel
theorem dX5_standInsAt_44 : decode cX5_standInsAt 44 = .ok (.ireturn, 1) := by decide +kernel
theorem dX5_dropEndedStandIns_0 : decode cX5_dropEndedStandIns 0 = .ok (.iconst 0, 1) := by decide +kernel
theorem dX5_dropEndedStandIns_1 : decode cX5_dropEndedStandIns 1 = .ok (.istore_n 2, 1) := by decide +kernel
theorem dX5_dropEndedStandIns_2 : decode cX5_dropEndedStandIns 2 = .ok (.iconst 0, 1) := by decide +kernel
theorem dX5_dropEndedStandIns_3 : decode cX5_dropEndedStandIns 3 = .ok (.istore_n 3, 1) := by decide +kernel
theorem dX5_dropEndedStandIns_4 : decode cX5_dropEndedStandIns 4 = .ok (.iload_n 3, 1) := by decide +kernel
theorem dX5_dropEndedStandIns_5 : decode cX5_dropEndedStandIns 5 = .ok (.aload_n 0, 1) := by decide +kernel
theorem dX5_dropEndedStandIns_6 : decode cX5_dropEndedStandIns 6 = .ok (.getfield 49, 3) := by decide +kernel
theorem dX5_dropEndedStandIns_9 : decode cX5_dropEndedStandIns 9 = .ok (.if_icmp .ge 49, 3) := by decide +kernel
theorem dX5_dropEndedStandIns_12 : decode cX5_dropEndedStandIns 12 = .ok (.iload_n 3, 1) := by decide +kernel
theorem dX5_dropEndedStandIns_13 : decode cX5_dropEndedStandIns 13 = .ok (.aload_n 0, 1) := by decide +kernel
theorem dX5_dropEndedStandIns_14 : decode cX5_dropEndedStandIns 14 = .ok (.getfield 25, 3) := by decide +kernel
theorem dX5_dropEndedStandIns_17 : decode cX5_dropEndedStandIns 17 = .ok (.arraylength, 1) := by decide +kernel
theorem dX5_dropEndedStandIns_18 : decode cX5_dropEndedStandIns 18 = .ok (.if_icmp .ge 40, 3) := by decide +kernel
theorem dX5_dropEndedStandIns_21 : decode cX5_dropEndedStandIns 21 = .ok (.aload_n 0, 1) := by decide +kernel
theorem dX5_dropEndedStandIns_22 : decode cX5_dropEndedStandIns 22 = .ok (.getfield 25, 3) := by decide +kernel
theorem dX5_dropEndedStandIns_25 : decode cX5_dropEndedStandIns 25 = .ok (.iload_n 3, 1) := by decide +kernel
theorem dX5_dropEndedStandIns_26 : decode cX5_dropEndedStandIns 26 = .ok (.aaload, 1) := by decide +kernel
theorem dX5_dropEndedStandIns_27 : decode cX5_dropEndedStandIns 27 = .ok (.iload_n 1, 1) := by decide +kernel
theorem dX5_dropEndedStandIns_28 : decode cX5_dropEndedStandIns 28 = .ok (.invokevirtual 97, 3) := by decide +kernel
theorem dX5_dropEndedStandIns_31 : decode cX5_dropEndedStandIns 31 = .ok (.ifCond .eq 21, 3) := by decide +kernel
theorem dX5_dropEndedStandIns_34 : decode cX5_dropEndedStandIns 34 = .ok (.aload_n 0, 1) := by decide +kernel
theorem dX5_dropEndedStandIns_35 : decode cX5_dropEndedStandIns 35 = .ok (.getfield 25, 3) := by decide +kernel
theorem dX5_dropEndedStandIns_38 : decode cX5_dropEndedStandIns 38 = .ok (.iload_n 2, 1) := by decide +kernel
theorem dX5_dropEndedStandIns_39 : decode cX5_dropEndedStandIns 39 = .ok (.aaload, 1) := by decide +kernel
theorem dX5_dropEndedStandIns_40 : decode cX5_dropEndedStandIns 40 = .ok (.aload_n 0, 1) := by decide +kernel
theorem dX5_dropEndedStandIns_41 : decode cX5_dropEndedStandIns 41 = .ok (.getfield 25, 3) := by decide +kernel
theorem dX5_dropEndedStandIns_44 : decode cX5_dropEndedStandIns 44 = .ok (.iload_n 3, 1) := by decide +kernel
theorem dX5_dropEndedStandIns_45 : decode cX5_dropEndedStandIns 45 = .ok (.aaload, 1) := by decide +kernel
theorem dX5_dropEndedStandIns_46 : decode cX5_dropEndedStandIns 46 = .ok (.invokevirtual 39, 3) := by decide +kernel
theorem dX5_dropEndedStandIns_49 : decode cX5_dropEndedStandIns 49 = .ok (.iinc 2 1, 3) := by decide +kernel
theorem dX5_dropEndedStandIns_52 : decode cX5_dropEndedStandIns 52 = .ok (.iinc 3 1, 3) := by decide +kernel
theorem dX5_dropEndedStandIns_55 : decode cX5_dropEndedStandIns 55 = .ok (.goto (-51), 3) := by decide +kernel
theorem dX5_dropEndedStandIns_58 : decode cX5_dropEndedStandIns 58 = .ok (.aload_n 0, 1) := by decide +kernel
theorem dX5_dropEndedStandIns_59 : decode cX5_dropEndedStandIns 59 = .ok (.iload_n 2, 1) := by decide +kernel
theorem dX5_dropEndedStandIns_60 : decode cX5_dropEndedStandIns 60 = .ok (.putfield 49, 3) := by decide +kernel
theorem dX5_dropEndedStandIns_63 : decode cX5_dropEndedStandIns 63 = .ok (.return_, 1) := by decide +kernel
theorem dX5_addStandIn_0 : decode cX5_addStandIn 0 = .ok (.aload_n 0, 1) := by decide +kernel
theorem dX5_addStandIn_1 : decode cX5_addStandIn 1 = .ok (.iload_n 3, 1) := by decide +kernel
theorem dX5_addStandIn_2 : decode cX5_addStandIn 2 = .ok (.invokevirtual 100, 3) := by decide +kernel
theorem dX5_addStandIn_5 : decode cX5_addStandIn 5 = .ok (.aload_n 0, 1) := by decide +kernel
theorem dX5_addStandIn_6 : decode cX5_addStandIn 6 = .ok (.getfield 49, 3) := by decide +kernel
theorem dX5_addStandIn_9 : decode cX5_addStandIn 9 = .ok (.istore 5, 2) := by decide +kernel
theorem dX5_addStandIn_11 : decode cX5_addStandIn 11 = .ok (.iload 5, 2) := by decide +kernel
theorem dX5_addStandIn_13 : decode cX5_addStandIn 13 = .ok (.ifCond .lt 13, 3) := by decide +kernel
theorem dX5_addStandIn_16 : decode cX5_addStandIn 16 = .ok (.iload 5, 2) := by decide +kernel
theorem dX5_addStandIn_18 : decode cX5_addStandIn 18 = .ok (.aload_n 0, 1) := by decide +kernel
theorem dX5_addStandIn_19 : decode cX5_addStandIn 19 = .ok (.getfield 25, 3) := by decide +kernel
theorem dX5_addStandIn_22 : decode cX5_addStandIn 22 = .ok (.arraylength, 1) := by decide +kernel
theorem dX5_addStandIn_23 : decode cX5_addStandIn 23 = .ok (.if_icmp .lt 6, 3) := by decide +kernel
theorem dX5_addStandIn_26 : decode cX5_addStandIn 26 = .ok (.bipush (-3), 2) := by decide +kernel
theorem dX5_addStandIn_28 : decode cX5_addStandIn 28 = .ok (.ireturn, 1) := by decide +kernel
theorem dX5_addStandIn_29 : decode cX5_addStandIn 29 = .ok (.aload_n 0, 1) := by decide +kernel
theorem dX5_addStandIn_30 : decode cX5_addStandIn 30 = .ok (.getfield 25, 3) := by decide +kernel
theorem dX5_addStandIn_33 : decode cX5_addStandIn 33 = .ok (.iload 5, 2) := by decide +kernel
theorem dX5_addStandIn_35 : decode cX5_addStandIn 35 = .ok (.aaload, 1) := by decide +kernel
theorem dX5_addStandIn_36 : decode cX5_addStandIn 36 = .ok (.iload_n 1, 1) := by decide +kernel
theorem dX5_addStandIn_37 : decode cX5_addStandIn 37 = .ok (.putfield 104, 3) := by decide +kernel
theorem dX5_addStandIn_40 : decode cX5_addStandIn 40 = .ok (.aload_n 0, 1) := by decide +kernel
theorem dX5_addStandIn_41 : decode cX5_addStandIn 41 = .ok (.getfield 25, 3) := by decide +kernel
theorem dX5_addStandIn_44 : decode cX5_addStandIn 44 = .ok (.iload 5, 2) := by decide +kernel
theorem dX5_addStandIn_46 : decode cX5_addStandIn 46 = .ok (.aaload, 1) := by decide +kernel
theorem dX5_addStandIn_47 : decode cX5_addStandIn 47 = .ok (.iload_n 2, 1) := by decide +kernel
theorem dX5_addStandIn_48 : decode cX5_addStandIn 48 = .ok (.putfield 107, 3) := by decide +kernel
theorem dX5_addStandIn_51 : decode cX5_addStandIn 51 = .ok (.aload_n 0, 1) := by decide +kernel
theorem dX5_addStandIn_52 : decode cX5_addStandIn 52 = .ok (.getfield 25, 3) := by decide +kernel
theorem dX5_addStandIn_55 : decode cX5_addStandIn 55 = .ok (.iload 5, 2) := by decide +kernel
theorem dX5_addStandIn_57 : decode cX5_addStandIn 57 = .ok (.aaload, 1) := by decide +kernel
theorem dX5_addStandIn_58 : decode cX5_addStandIn 58 = .ok (.iload 4, 2) := by decide +kernel
theorem dX5_addStandIn_60 : decode cX5_addStandIn 60 = .ok (.putfield 110, 3) := by decide +kernel
theorem dX5_addStandIn_63 : decode cX5_addStandIn 63 = .ok (.aload_n 0, 1) := by decide +kernel
theorem dX5_addStandIn_64 : decode cX5_addStandIn 64 = .ok (.dup, 1) := by decide +kernel
theorem dX5_addStandIn_65 : decode cX5_addStandIn 65 = .ok (.getfield 49, 3) := by decide +kernel
theorem dX5_addStandIn_68 : decode cX5_addStandIn 68 = .ok (.iconst 1, 1) := by decide +kernel
theorem dX5_addStandIn_69 : decode cX5_addStandIn 69 = .ok (.iadd, 1) := by decide +kernel
theorem dX5_addStandIn_70 : decode cX5_addStandIn 70 = .ok (.putfield 49, 3) := by decide +kernel
theorem dX5_addStandIn_73 : decode cX5_addStandIn 73 = .ok (.aload_n 0, 1) := by decide +kernel
theorem dX5_addStandIn_74 : decode cX5_addStandIn 74 = .ok (.getfield 49, 3) := by decide +kernel
theorem dX5_addStandIn_77 : decode cX5_addStandIn 77 = .ok (.ireturn, 1) := by decide +kernel
theorem dX5_regionAt_0 : decode cX5_regionAt 0 = .ok (.iload_n 1, 1) := by decide +kernel
theorem dX5_regionAt_1 : decode cX5_regionAt 1 = .ok (.invokestatic 113, 3) := by decide +kernel
theorem dX5_regionAt_4 : decode cX5_regionAt 4 = .ok (.istore_n 2, 1) := by decide +kernel
theorem dX5_regionAt_5 : decode cX5_regionAt 5 = .ok (.iconst 0, 1) := by decide +kernel
theorem dX5_regionAt_6 : decode cX5_regionAt 6 = .ok (.istore_n 3, 1) := by decide +kernel
theorem dX5_regionAt_7 : decode cX5_regionAt 7 = .ok (.iload_n 3, 1) := by decide +kernel
theorem dX5_regionAt_8 : decode cX5_regionAt 8 = .ok (.aload_n 0, 1) := by decide +kernel
theorem dX5_regionAt_9 : decode cX5_regionAt 9 = .ok (.getfield 46, 3) := by decide +kernel
theorem dX5_regionAt_12 : decode cX5_regionAt 12 = .ok (.if_icmp .ge 33, 3) := by decide +kernel
theorem dX5_regionAt_15 : decode cX5_regionAt 15 = .ok (.iload_n 3, 1) := by decide +kernel
theorem dX5_regionAt_16 : decode cX5_regionAt 16 = .ok (.aload_n 0, 1) := by decide +kernel
theorem dX5_regionAt_17 : decode cX5_regionAt 17 = .ok (.getfield 19, 3) := by decide +kernel
theorem dX5_regionAt_20 : decode cX5_regionAt 20 = .ok (.arraylength, 1) := by decide +kernel
theorem dX5_regionAt_21 : decode cX5_regionAt 21 = .ok (.if_icmp .ge 24, 3) := by decide +kernel
theorem dX5_regionAt_24 : decode cX5_regionAt 24 = .ok (.aload_n 0, 1) := by decide +kernel
theorem dX5_regionAt_25 : decode cX5_regionAt 25 = .ok (.getfield 19, 3) := by decide +kernel
theorem dX5_regionAt_28 : decode cX5_regionAt 28 = .ok (.iload_n 3, 1) := by decide +kernel
theorem dX5_regionAt_29 : decode cX5_regionAt 29 = .ok (.aaload, 1) := by decide +kernel
theorem dX5_regionAt_30 : decode cX5_regionAt 30 = .ok (.iload_n 2, 1) := by decide +kernel
theorem dX5_regionAt_31 : decode cX5_regionAt 31 = .ok (.invokevirtual 116, 3) := by decide +kernel
theorem dX5_regionAt_34 : decode cX5_regionAt 34 = .ok (.ifCond .eq 5, 3) := by decide +kernel
theorem dX5_regionAt_37 : decode cX5_regionAt 37 = .ok (.iload_n 3, 1) := by decide +kernel
theorem dX5_regionAt_38 : decode cX5_regionAt 38 = .ok (.ireturn, 1) := by decide +kernel
theorem dX5_regionAt_39 : decode cX5_regionAt 39 = .ok (.iinc 3 1, 3) := by decide +kernel
theorem dX5_regionAt_42 : decode cX5_regionAt 42 = .ok (.goto (-35), 3) := by decide +kernel
theorem dX5_regionAt_45 : decode cX5_regionAt 45 = .ok (.iconst (-1), 1) := by decide +kernel
theorem dX5_regionAt_46 : decode cX5_regionAt 46 = .ok (.ireturn, 1) := by decide +kernel
theorem dX5_personAt_0 : decode cX5_personAt 0 = .ok (.iload_n 1, 1) := by decide +kernel
theorem dX5_personAt_1 : decode cX5_personAt 1 = .ok (.ifCond .lt 20, 3) := by decide +kernel
theorem dX5_personAt_4 : decode cX5_personAt 4 = .ok (.iload_n 1, 1) := by decide +kernel
theorem dX5_personAt_5 : decode cX5_personAt 5 = .ok (.aload_n 0, 1) := by decide +kernel
theorem dX5_personAt_6 : decode cX5_personAt 6 = .ok (.getfield 19, 3) := by decide +kernel
theorem dX5_personAt_9 : decode cX5_personAt 9 = .ok (.arraylength, 1) := by decide +kernel
theorem dX5_personAt_10 : decode cX5_personAt 10 = .ok (.if_icmp .ge 11, 3) := by decide +kernel
theorem dX5_personAt_13 : decode cX5_personAt 13 = .ok (.iload_n 3, 1) := by decide +kernel
theorem dX5_personAt_14 : decode cX5_personAt 14 = .ok (.ifCond .lt 7, 3) := by decide +kernel
theorem dX5_personAt_17 : decode cX5_personAt 17 = .ok (.iload_n 2, 1) := by decide +kernel
theorem dX5_personAt_18 : decode cX5_personAt 18 = .ok (.ifCond .ge 5, 3) := by decide +kernel
theorem dX5_personAt_21 : decode cX5_personAt 21 = .ok (.iconst (-1), 1) := by decide +kernel
theorem dX5_personAt_22 : decode cX5_personAt 22 = .ok (.ireturn, 1) := by decide +kernel
theorem dX5_personAt_23 : decode cX5_personAt 23 = .ok (.iload_n 3, 1) := by decide +kernel
theorem dX5_personAt_24 : decode cX5_personAt 24 = .ok (.ifCond .ne 69, 3) := by decide +kernel
theorem dX5_personAt_27 : decode cX5_personAt 27 = .ok (.aload_n 0, 1) := by decide +kernel
theorem dX5_personAt_28 : decode cX5_personAt 28 = .ok (.getfield 49, 3) := by decide +kernel
theorem dX5_personAt_31 : decode cX5_personAt 31 = .ok (.aload_n 0, 1) := by decide +kernel
theorem dX5_personAt_32 : decode cX5_personAt 32 = .ok (.getfield 25, 3) := by decide +kernel
theorem dX5_personAt_35 : decode cX5_personAt 35 = .ok (.arraylength, 1) := by decide +kernel
theorem dX5_personAt_36 : decode cX5_personAt 36 = .ok (.invokestatic 119, 3) := by decide +kernel
theorem dX5_personAt_39 : decode cX5_personAt 39 = .ok (.iconst 1, 1) := by decide +kernel
theorem dX5_personAt_40 : decode cX5_personAt 40 = .ok (.isub, 1) := by decide +kernel
theorem dX5_personAt_41 : decode cX5_personAt 41 = .ok (.istore 4, 2) := by decide +kernel
theorem dX5_personAt_43 : decode cX5_personAt 43 = .ok (.iload 4, 2) := by decide +kernel
theorem dX5_personAt_45 : decode cX5_personAt 45 = .ok (.ifCond .lt 48, 3) := by decide +kernel
theorem dX5_personAt_48 : decode cX5_personAt 48 = .ok (.aload_n 0, 1) := by decide +kernel
theorem dX5_personAt_49 : decode cX5_personAt 49 = .ok (.getfield 25, 3) := by decide +kernel
theorem dX5_personAt_52 : decode cX5_personAt 52 = .ok (.iload 4, 2) := by decide +kernel
theorem dX5_personAt_54 : decode cX5_personAt 54 = .ok (.aaload, 1) := by decide +kernel
theorem dX5_personAt_55 : decode cX5_personAt 55 = .ok (.getfield 104, 3) := by decide +kernel
theorem dX5_personAt_58 : decode cX5_personAt 58 = .ok (.iload_n 1, 1) := by decide +kernel
theorem dX5_personAt_59 : decode cX5_personAt 59 = .ok (.if_icmp .ne 28, 3) := by decide +kernel
theorem dX5_personAt_62 : decode cX5_personAt 62 = .ok (.aload_n 0, 1) := by decide +kernel
theorem dX5_personAt_63 : decode cX5_personAt 63 = .ok (.getfield 25, 3) := by decide +kernel
theorem dX5_personAt_66 : decode cX5_personAt 66 = .ok (.iload 4, 2) := by decide +kernel
theorem dX5_personAt_68 : decode cX5_personAt 68 = .ok (.aaload, 1) := by decide +kernel
theorem dX5_personAt_69 : decode cX5_personAt 69 = .ok (.iload_n 2, 1) := by decide +kernel
theorem dX5_personAt_70 : decode cX5_personAt 70 = .ok (.invokevirtual 97, 3) := by decide +kernel
theorem dX5_personAt_73 : decode cX5_personAt 73 = .ok (.ifCond .eq 14, 3) := by decide +kernel
theorem dX5_personAt_76 : decode cX5_personAt 76 = .ok (.aload_n 0, 1) := by decide +kernel
theorem dX5_personAt_77 : decode cX5_personAt 77 = .ok (.getfield 25, 3) := by decide +kernel
theorem dX5_personAt_80 : decode cX5_personAt 80 = .ok (.iload 4, 2) := by decide +kernel
theorem dX5_personAt_82 : decode cX5_personAt 82 = .ok (.aaload, 1) := by decide +kernel
theorem dX5_personAt_83 : decode cX5_personAt 83 = .ok (.getfield 107, 3) := by decide +kernel
theorem dX5_personAt_86 : decode cX5_personAt 86 = .ok (.ireturn, 1) := by decide +kernel
theorem dX5_personAt_87 : decode cX5_personAt 87 = .ok (.iinc 4 (-1), 3) := by decide +kernel
theorem dX5_personAt_90 : decode cX5_personAt 90 = .ok (.goto (-47), 3) := by decide +kernel
theorem dX5_personAt_93 : decode cX5_personAt 93 = .ok (.aload_n 0, 1) := by decide +kernel
theorem dX5_personAt_94 : decode cX5_personAt 94 = .ok (.getfield 19, 3) := by decide +kernel
theorem dX5_personAt_97 : decode cX5_personAt 97 = .ok (.iload_n 1, 1) := by decide +kernel
theorem dX5_personAt_98 : decode cX5_personAt 98 = .ok (.aaload, 1) := by decide +kernel
theorem dX5_personAt_99 : decode cX5_personAt 99 = .ok (.astore 4, 2) := by decide +kernel
theorem dX5_personAt_101 : decode cX5_personAt 101 = .ok (.aload 4, 2) := by decide +kernel
theorem dX5_personAt_103 : decode cX5_personAt 103 = .ok (.getfield 125, 3) := by decide +kernel
theorem dX5_personAt_106 : decode cX5_personAt 106 = .ok (.iconst 1, 1) := by decide +kernel
theorem dX5_personAt_107 : decode cX5_personAt 107 = .ok (.if_icmp .lt 12, 3) := by decide +kernel
theorem dX5_personAt_110 : decode cX5_personAt 110 = .ok (.aload 4, 2) := by decide +kernel
theorem dX5_personAt_112 : decode cX5_personAt 112 = .ok (.getfield 128, 3) := by decide +kernel
theorem dX5_personAt_115 : decode cX5_personAt 115 = .ok (.iconst 1, 1) := by decide +kernel
theorem dX5_personAt_116 : decode cX5_personAt 116 = .ok (.if_icmp .ge 5, 3) := by decide +kernel
theorem dX5_personAt_119 : decode cX5_personAt 119 = .ok (.iconst (-1), 1) := by decide +kernel
theorem dX5_personAt_120 : decode cX5_personAt 120 = .ok (.ireturn, 1) := by decide +kernel
theorem dX5_personAt_121 : decode cX5_personAt 121 = .ok (.aload 4, 2) := by decide +kernel
theorem dX5_personAt_123 : decode cX5_personAt 123 = .ok (.iload_n 2, 1) := by decide +kernel
theorem dX5_personAt_124 : decode cX5_personAt 124 = .ok (.bipush 60, 2) := by decide +kernel
theorem dX5_personAt_126 : decode cX5_personAt 126 = .ok (.idiv, 1) := by decide +kernel
theorem dX5_personAt_127 : decode cX5_personAt 127 = .ok (.aload 4, 2) := by decide +kernel
theorem dX5_personAt_129 : decode cX5_personAt 129 = .ok (.getfield 125, 3) := by decide +kernel
theorem dX5_personAt_132 : decode cX5_personAt 132 = .ok (.idiv, 1) := by decide +kernel
theorem dX5_personAt_133 : decode cX5_personAt 133 = .ok (.iload_n 3, 1) := by decide +kernel
theorem dX5_personAt_134 : decode cX5_personAt 134 = .ok (.iadd, 1) := by decide +kernel
theorem dX5_personAt_135 : decode cX5_personAt 135 = .ok (.aload 4, 2) := by decide +kernel
theorem dX5_personAt_137 : decode cX5_personAt 137 = .ok (.getfield 128, 3) := by decide +kernel
theorem dX5_personAt_140 : decode cX5_personAt 140 = .ok (.irem, 1) := by decide +kernel
theorem dX5_personAt_141 : decode cX5_personAt 141 = .ok (.invokevirtual 131, 3) := by decide +kernel
theorem dX5_personAt_144 : decode cX5_personAt 144 = .ok (.ireturn, 1) := by decide +kernel
theorem dX6_init_0 : decode cX6_init 0 = .ok (.aload_n 0, 1) := by decide +kernel
theorem dX6_init_1 : decode cX6_init 1 = .ok (.invokespecial 3, 3) := by decide +kernel
theorem dX6_init_4 : decode cX6_init 4 = .ok (.aload_n 0, 1) := by decide +kernel
theorem dX6_init_5 : decode cX6_init 5 = .ok (.bipush 80, 2) := by decide +kernel
theorem dX6_init_7 : decode cX6_init 7 = .ok (.newarray .char, 2) := by decide +kernel
theorem dX6_init_9 : decode cX6_init 9 = .ok (.putfield 9, 3) := by decide +kernel
theorem dX6_init_12 : decode cX6_init 12 = .ok (.aload_n 0, 1) := by decide +kernel
theorem dX6_init_13 : decode cX6_init 13 = .ok (.iconst 3, 1) := by decide +kernel
theorem dX6_init_14 : decode cX6_init 14 = .ok (.newarray .int, 2) := by decide +kernel
theorem dX6_init_16 : decode cX6_init 16 = .ok (.putfield 15, 3) := by decide +kernel
theorem dX6_init_19 : decode cX6_init 19 = .ok (.aload_n 0, 1) := by decide +kernel
theorem dX6_init_20 : decode cX6_init 20 = .ok (.iconst (-1), 1) := by decide +kernel
theorem dX6_init_21 : decode cX6_init 21 = .ok (.putfield 19, 3) := by decide +kernel
theorem dX6_init_24 : decode cX6_init 24 = .ok (.return_, 1) := by decide +kernel
theorem dX6_append_0 : decode cX6_append 0 = .ok (.aload_n 0, 1) := by decide +kernel
theorem dX6_append_1 : decode cX6_append 1 = .ok (.getfield 23, 3) := by decide +kernel
theorem dX6_append_4 : decode cX6_append 4 = .ok (.ifCond .lt 15, 3) := by decide +kernel
theorem dX6_append_7 : decode cX6_append 7 = .ok (.aload_n 0, 1) := by decide +kernel
theorem dX6_append_8 : decode cX6_append 8 = .ok (.getfield 23, 3) := by decide +kernel
theorem dX6_append_11 : decode cX6_append 11 = .ok (.aload_n 0, 1) := by decide +kernel
theorem dX6_append_12 : decode cX6_append 12 = .ok (.getfield 9, 3) := by decide +kernel
theorem dX6_append_15 : decode cX6_append 15 = .ok (.arraylength, 1) := by decide +kernel
theorem dX6_append_16 : decode cX6_append 16 = .ok (.if_icmp .lt 6, 3) := by decide +kernel
theorem dX6_append_19 : decode cX6_append 19 = .ok (.bipush (-3), 2) := by decide +kernel
theorem dX6_append_21 : decode cX6_append 21 = .ok (.ireturn, 1) := by decide +kernel
theorem dX6_append_22 : decode cX6_append 22 = .ok (.aload_n 0, 1) := by decide +kernel
theorem dX6_append_23 : decode cX6_append 23 = .ok (.getfield 9, 3) := by decide +kernel
theorem dX6_append_26 : decode cX6_append 26 = .ok (.aload_n 0, 1) := by decide +kernel
theorem dX6_append_27 : decode cX6_append 27 = .ok (.getfield 23, 3) := by decide +kernel
theorem dX6_append_30 : decode cX6_append 30 = .ok (.iload_n 1, 1) := by decide +kernel
theorem dX6_append_31 : decode cX6_append 31 = .ok (.castore, 1) := by decide +kernel
theorem dX6_append_32 : decode cX6_append 32 = .ok (.aload_n 0, 1) := by decide +kernel
theorem dX6_append_33 : decode cX6_append 33 = .ok (.dup, 1) := by decide +kernel
theorem dX6_append_34 : decode cX6_append 34 = .ok (.getfield 23, 3) := by decide +kernel
theorem dX6_append_37 : decode cX6_append 37 = .ok (.iconst 1, 1) := by decide +kernel
theorem dX6_append_38 : decode cX6_append 38 = .ok (.iadd, 1) := by decide +kernel
theorem dX6_append_39 : decode cX6_append 39 = .ok (.putfield 23, 3) := by decide +kernel
theorem dX6_append_42 : decode cX6_append 42 = .ok (.aload_n 0, 1) := by decide +kernel
theorem dX6_append_43 : decode cX6_append 43 = .ok (.getfield 23, 3) := by decide +kernel
theorem dX6_append_46 : decode cX6_append 46 = .ok (.ireturn, 1) := by decide +kernel
theorem dX6_perform_0 : decode cX6_perform 0 = .ok (.iconst 0, 1) := by decide +kernel
theorem dX6_perform_1 : decode cX6_perform 1 = .ok (.istore_n 2, 1) := by decide +kernel
theorem dX6_perform_2 : decode cX6_perform 2 = .ok (.aload_n 0, 1) := by decide +kernel
theorem dX6_perform_3 : decode cX6_perform 3 = .ok (.iconst 0, 1) := by decide +kernel
theorem dX6_perform_4 : decode cX6_perform 4 = .ok (.putfield 26, 3) := by decide +kernel
theorem dX6_perform_7 : decode cX6_perform 7 = .ok (.aload_n 0, 1) := by decide +kernel
theorem dX6_perform_8 : decode cX6_perform 8 = .ok (.iconst (-1), 1) := by decide +kernel
theorem dX6_perform_9 : decode cX6_perform 9 = .ok (.putfield 19, 3) := by decide +kernel
theorem dX6_perform_12 : decode cX6_perform 12 = .ok (.iconst 0, 1) := by decide +kernel
theorem dX6_perform_13 : decode cX6_perform 13 = .ok (.istore_n 3, 1) := by decide +kernel
theorem dX6_perform_14 : decode cX6_perform 14 = .ok (.iload_n 3, 1) := by decide +kernel
theorem dX6_perform_15 : decode cX6_perform 15 = .ok (.bipush 80, 2) := by decide +kernel
theorem dX6_perform_17 : decode cX6_perform 17 = .ok (.if_icmp .ge 73, 3) := by decide +kernel
theorem dX6_perform_20 : decode cX6_perform 20 = .ok (.iload_n 2, 1) := by decide +kernel
theorem dX6_perform_21 : decode cX6_perform 21 = .ok (.aload_n 0, 1) := by decide +kernel
theorem dX6_perform_22 : decode cX6_perform 22 = .ok (.getfield 23, 3) := by decide +kernel
theorem dX6_perform_25 : decode cX6_perform 25 = .ok (.if_icmp .ge 65, 3) := by decide +kernel
theorem dX6_perform_28 : decode cX6_perform 28 = .ok (.aload_n 0, 1) := by decide +kernel
theorem dX6_perform_29 : decode cX6_perform 29 = .ok (.iload_n 2, 1) := by decide +kernel
theorem dX6_perform_30 : decode cX6_perform 30 = .ok (.invokevirtual 29, 3) := by decide +kernel
theorem dX6_perform_33 : decode cX6_perform 33 = .ok (.istore 4, 2) := by decide +kernel
theorem dX6_perform_35 : decode cX6_perform 35 = .ok (.aload_n 0, 1) := by decide +kernel
theorem dX6_perform_36 : decode cX6_perform 36 = .ok (.iload 4, 2) := by decide +kernel
theorem dX6_perform_38 : decode cX6_perform 38 = .ok (.iconst (-1), 1) := by decide +kernel
theorem dX6_perform_39 : decode cX6_perform 39 = .ok (.if_icmp .ne 7, 3) := by decide +kernel
theorem dX6_perform_42 : decode cX6_perform 42 = .ok (.iconst 1, 1) := by decide +kernel
theorem dX6_perform_43 : decode cX6_perform 43 = .ok (.goto 11, 3) := by decide +kernel
theorem dX6_perform_46 : decode cX6_perform 46 = .ok (.aload_n 0, 1) := by decide +kernel
theorem dX6_perform_47 : decode cX6_perform 47 = .ok (.aload_n 1, 1) := by decide +kernel
theorem dX6_perform_48 : decode cX6_perform 48 = .ok (.invokevirtual 33, 3) := by decide +kernel
theorem dX6_perform_51 : decode cX6_perform 51 = .ok (.invokestatic 37, 3) := by decide +kernel
theorem dX6_perform_54 : decode cX6_perform 54 = .ok (.putfield 19, 3) := by decide +kernel
theorem dX6_perform_57 : decode cX6_perform 57 = .ok (.aload_n 0, 1) := by decide +kernel
theorem dX6_perform_58 : decode cX6_perform 58 = .ok (.getfield 19, 3) := by decide +kernel
theorem dX6_perform_61 : decode cX6_perform 61 = .ok (.iconst (-1), 1) := by decide +kernel
theorem dX6_perform_62 : decode cX6_perform 62 = .ok (.if_icmp .eq 9, 3) := by decide +kernel
theorem dX6_perform_65 : decode cX6_perform 65 = .ok (.aload_n 0, 1) := by decide +kernel
theorem dX6_perform_66 : decode cX6_perform 66 = .ok (.iload_n 2, 1) := by decide +kernel
theorem dX6_perform_67 : decode cX6_perform 67 = .ok (.putfield 40, 3) := by decide +kernel
theorem dX6_perform_70 : decode cX6_perform 70 = .ok (.return_, 1) := by decide +kernel
theorem dX6_perform_71 : decode cX6_perform 71 = .ok (.aload_n 0, 1) := by decide +kernel
theorem dX6_perform_72 : decode cX6_perform 72 = .ok (.dup, 1) := by decide +kernel
theorem dX6_perform_73 : decode cX6_perform 73 = .ok (.getfield 26, 3) := by decide +kernel
theorem dX6_perform_76 : decode cX6_perform 76 = .ok (.iconst 1, 1) := by decide +kernel
theorem dX6_perform_77 : decode cX6_perform 77 = .ok (.iadd, 1) := by decide +kernel
theorem dX6_perform_78 : decode cX6_perform 78 = .ok (.putfield 26, 3) := by decide +kernel
theorem dX6_perform_81 : decode cX6_perform 81 = .ok (.iload 4, 2) := by decide +kernel
theorem dX6_perform_83 : decode cX6_perform 83 = .ok (.istore_n 2, 1) := by decide +kernel
theorem dX6_perform_84 : decode cX6_perform 84 = .ok (.iinc 3 1, 3) := by decide +kernel
theorem dX6_perform_87 : decode cX6_perform 87 = .ok (.goto (-73), 3) := by decide +kernel
theorem dX6_perform_90 : decode cX6_perform 90 = .ok (.return_, 1) := by decide +kernel
theorem dX6_reasonOf_0 : decode cX6_reasonOf 0 = .ok (.iload_n 0, 1) := by decide +kernel
theorem dX6_reasonOf_1 : decode cX6_reasonOf 1 = .ok (.ifCond .lt 5, 3) := by decide +kernel
theorem dX6_reasonOf_4 : decode cX6_reasonOf 4 = .ok (.iconst (-1), 1) := by decide +kernel
theorem dX6_reasonOf_5 : decode cX6_reasonOf 5 = .ok (.ireturn, 1) := by decide +kernel
theorem dX6_reasonOf_6 : decode cX6_reasonOf 6 = .ok (.iload_n 0, 1) := by decide +kernel
theorem dX6_reasonOf_7 : decode cX6_reasonOf 7 = .ok (.iconst (-1), 1) := by decide +kernel
theorem dX6_reasonOf_8 : decode cX6_reasonOf 8 = .ok (.if_icmp .ne 7, 3) := by decide +kernel
theorem dX6_reasonOf_11 : decode cX6_reasonOf 11 = .ok (.iconst 2, 1) := by decide +kernel
theorem dX6_reasonOf_12 : decode cX6_reasonOf 12 = .ok (.goto 4, 3) := by decide +kernel
theorem dX6_reasonOf_15 : decode cX6_reasonOf 15 = .ok (.iconst 3, 1) := by decide +kernel
theorem dX6_reasonOf_16 : decode cX6_reasonOf 16 = .ok (.ireturn, 1) := by decide +kernel
theorem dX6_obey_0 : decode cX6_obey 0 = .ok (.aload_n 0, 1) := by decide +kernel
theorem dX6_obey_1 : decode cX6_obey 1 = .ok (.getfield 43, 3) := by decide +kernel
theorem dX6_obey_4 : decode cX6_obey 4 = .ok (.lookupswitch 125 #[(97, 52), (107, 69), (111, 91), (114, 80), (116, 114)], 52) := by decide +kernel
theorem dX6_obey_56 : decode cX6_obey 56 = .ok (.aload_n 1, 1) := by decide +kernel
theorem dX6_obey_57 : decode cX6_obey 57 = .ok (.aload_n 0, 1) := by decide +kernel
theorem dX6_obey_58 : decode cX6_obey 58 = .ok (.getfield 15, 3) := by decide +kernel
theorem dX6_obey_61 : decode cX6_obey 61 = .ok (.iconst 0, 1) := by decide +kernel
theorem dX6_obey_62 : decode cX6_obey 62 = .ok (.iaload, 1) := by decide +kernel
theorem dX6_obey_63 : decode cX6_obey 63 = .ok (.aload_n 0, 1) := by decide +kernel
theorem dX6_obey_64 : decode cX6_obey 64 = .ok (.getfield 15, 3) := by decide +kernel
theorem dX6_obey_67 : decode cX6_obey 67 = .ok (.iconst 1, 1) := by decide +kernel
theorem dX6_obey_68 : decode cX6_obey 68 = .ok (.iaload, 1) := by decide +kernel
theorem dX6_obey_69 : decode cX6_obey 69 = .ok (.invokevirtual 46, 3) := by decide +kernel
theorem dX6_obey_72 : decode cX6_obey 72 = .ok (.ireturn, 1) := by decide +kernel
theorem dX6_obey_73 : decode cX6_obey 73 = .ok (.aload_n 1, 1) := by decide +kernel
theorem dX6_obey_74 : decode cX6_obey 74 = .ok (.aload_n 0, 1) := by decide +kernel
theorem dX6_obey_75 : decode cX6_obey 75 = .ok (.getfield 15, 3) := by decide +kernel
theorem dX6_obey_78 : decode cX6_obey 78 = .ok (.iconst 0, 1) := by decide +kernel
theorem dX6_obey_79 : decode cX6_obey 79 = .ok (.iaload, 1) := by decide +kernel
theorem dX6_obey_80 : decode cX6_obey 80 = .ok (.invokevirtual 52, 3) := by decide +kernel
theorem dX6_obey_83 : decode cX6_obey 83 = .ok (.ireturn, 1) := by decide +kernel
theorem dX6_obey_84 : decode cX6_obey 84 = .ok (.aload_n 1, 1) := by decide +kernel
theorem dX6_obey_85 : decode cX6_obey 85 = .ok (.aload_n 0, 1) := by decide +kernel
theorem dX6_obey_86 : decode cX6_obey 86 = .ok (.getfield 15, 3) := by decide +kernel
theorem dX6_obey_89 : decode cX6_obey 89 = .ok (.iconst 0, 1) := by decide +kernel
theorem dX6_obey_90 : decode cX6_obey 90 = .ok (.iaload, 1) := by decide +kernel
theorem dX6_obey_91 : decode cX6_obey 91 = .ok (.invokevirtual 55, 3) := by decide +kernel
theorem dX6_obey_94 : decode cX6_obey 94 = .ok (.ireturn, 1) := by decide +kernel
theorem dX6_obey_95 : decode cX6_obey 95 = .ok (.aload_n 1, 1) := by decide +kernel
theorem dX6_obey_96 : decode cX6_obey 96 = .ok (.aload_n 0, 1) := by decide +kernel
theorem dX6_obey_97 : decode cX6_obey 97 = .ok (.getfield 15, 3) := by decide +kernel
theorem dX6_obey_100 : decode cX6_obey 100 = .ok (.iconst 0, 1) := by decide +kernel
theorem dX6_obey_101 : decode cX6_obey 101 = .ok (.iaload, 1) := by decide +kernel
theorem dX6_obey_102 : decode cX6_obey 102 = .ok (.aload_n 0, 1) := by decide +kernel
theorem dX6_obey_103 : decode cX6_obey 103 = .ok (.getfield 15, 3) := by decide +kernel
theorem dX6_obey_106 : decode cX6_obey 106 = .ok (.iconst 1, 1) := by decide +kernel
theorem dX6_obey_107 : decode cX6_obey 107 = .ok (.iaload, 1) := by decide +kernel
theorem dX6_obey_108 : decode cX6_obey 108 = .ok (.aload_n 0, 1) := by decide +kernel
theorem dX6_obey_109 : decode cX6_obey 109 = .ok (.getfield 15, 3) := by decide +kernel
theorem dX6_obey_112 : decode cX6_obey 112 = .ok (.iconst 2, 1) := by decide +kernel
theorem dX6_obey_113 : decode cX6_obey 113 = .ok (.iaload, 1) := by decide +kernel
theorem dX6_obey_114 : decode cX6_obey 114 = .ok (.invokevirtual 58, 3) := by decide +kernel
theorem dX6_obey_117 : decode cX6_obey 117 = .ok (.ireturn, 1) := by decide +kernel
theorem dX6_obey_118 : decode cX6_obey 118 = .ok (.aload_n 1, 1) := by decide +kernel
theorem dX6_obey_119 : decode cX6_obey 119 = .ok (.aload_n 0, 1) := by decide +kernel
theorem dX6_obey_120 : decode cX6_obey 120 = .ok (.getfield 15, 3) := by decide +kernel
theorem dX6_obey_123 : decode cX6_obey 123 = .ok (.iconst 0, 1) := by decide +kernel
theorem dX6_obey_124 : decode cX6_obey 124 = .ok (.iaload, 1) := by decide +kernel
theorem dX6_obey_125 : decode cX6_obey 125 = .ok (.invokevirtual 62, 3) := by decide +kernel
theorem dX6_obey_128 : decode cX6_obey 128 = .ok (.ireturn, 1) := by decide +kernel
theorem dX6_obey_129 : decode cX6_obey 129 = .ok (.iconst (-1), 1) := by decide +kernel
theorem dX6_obey_130 : decode cX6_obey 130 = .ok (.ireturn, 1) := by decide +kernel
theorem dX6_readCommand_0 : decode cX6_readCommand 0 = .ok (.aload_n 0, 1) := by decide +kernel
theorem dX6_readCommand_1 : decode cX6_readCommand 1 = .ok (.aload_n 0, 1) := by decide +kernel
theorem dX6_readCommand_2 : decode cX6_readCommand 2 = .ok (.iload_n 1, 1) := by decide +kernel
theorem dX6_readCommand_3 : decode cX6_readCommand 3 = .ok (.invokevirtual 65, 3) := by decide +kernel
theorem dX6_readCommand_6 : decode cX6_readCommand 6 = .ok (.putfield 43, 3) := by decide +kernel
theorem dX6_readCommand_9 : decode cX6_readCommand 9 = .ok (.aload_n 0, 1) := by decide +kernel
theorem dX6_readCommand_10 : decode cX6_readCommand 10 = .ok (.getfield 43, 3) := by decide +kernel
theorem dX6_readCommand_13 : decode cX6_readCommand 13 = .ok (.invokestatic 69, 3) := by decide +kernel
theorem dX6_readCommand_16 : decode cX6_readCommand 16 = .ok (.istore_n 2, 1) := by decide +kernel
theorem dX6_readCommand_17 : decode cX6_readCommand 17 = .ok (.iload_n 2, 1) := by decide +kernel
theorem dX6_readCommand_18 : decode cX6_readCommand 18 = .ok (.ifCond .ne 5, 3) := by decide +kernel
theorem dX6_readCommand_21 : decode cX6_readCommand 21 = .ok (.iconst (-1), 1) := by decide +kernel
theorem dX6_readCommand_22 : decode cX6_readCommand 22 = .ok (.ireturn, 1) := by decide +kernel
theorem dX6_readCommand_23 : decode cX6_readCommand 23 = .ok (.iload_n 1, 1) := by decide +kernel
theorem dX6_readCommand_24 : decode cX6_readCommand 24 = .ok (.iconst 1, 1) := by decide +kernel
theorem dX6_readCommand_25 : decode cX6_readCommand 25 = .ok (.iadd, 1) := by decide +kernel
theorem dX6_readCommand_26 : decode cX6_readCommand 26 = .ok (.istore_n 3, 1) := by decide +kernel
theorem dX6_readCommand_27 : decode cX6_readCommand 27 = .ok (.iconst 0, 1) := by decide +kernel
theorem dX6_readCommand_28 : decode cX6_readCommand 28 = .ok (.istore 4, 2) := by decide +kernel
theorem dX6_readCommand_30 : decode cX6_readCommand 30 = .ok (.iload 4, 2) := by decide +kernel
theorem dX6_readCommand_32 : decode cX6_readCommand 32 = .ok (.iload_n 2, 1) := by decide +kernel
theorem dX6_readCommand_33 : decode cX6_readCommand 33 = .ok (.if_icmp .ge 37, 3) := by decide +kernel
theorem dX6_readCommand_36 : decode cX6_readCommand 36 = .ok (.iload_n 3, 1) := by decide +kernel
theorem dX6_readCommand_37 : decode cX6_readCommand 37 = .ok (.iconst (-1), 1) := by decide +kernel
theorem dX6_readCommand_38 : decode cX6_readCommand 38 = .ok (.if_icmp .eq 32, 3) := by decide +kernel
theorem dX6_readCommand_41 : decode cX6_readCommand 41 = .ok (.aload_n 0, 1) := by decide +kernel
theorem dX6_readCommand_42 : decode cX6_readCommand 42 = .ok (.iload_n 3, 1) := by decide +kernel
theorem dX6_readCommand_43 : decode cX6_readCommand 43 = .ok (.iload 4, 2) := by decide +kernel
theorem dX6_readCommand_45 : decode cX6_readCommand 45 = .ok (.iload 4, 2) := by decide +kernel
theorem dX6_readCommand_47 : decode cX6_readCommand 47 = .ok (.iconst 1, 1) := by decide +kernel
theorem dX6_readCommand_48 : decode cX6_readCommand 48 = .ok (.iadd, 1) := by decide +kernel
theorem dX6_readCommand_49 : decode cX6_readCommand 49 = .ok (.iload_n 2, 1) := by decide +kernel
theorem dX6_readCommand_50 : decode cX6_readCommand 50 = .ok (.if_icmp .ge 8, 3) := by decide +kernel
theorem dX6_readCommand_53 : decode cX6_readCommand 53 = .ok (.bipush 44, 2) := by decide +kernel
theorem dX6_readCommand_55 : decode cX6_readCommand 55 = .ok (.goto 5, 3) := by decide +kernel
theorem dX6_readCommand_58 : decode cX6_readCommand 58 = .ok (.bipush 59, 2) := by decide +kernel
theorem dX6_readCommand_60 : decode cX6_readCommand 60 = .ok (.invokevirtual 72, 3) := by decide +kernel
theorem dX6_readCommand_63 : decode cX6_readCommand 63 = .ok (.istore_n 3, 1) := by decide +kernel
theorem dX6_readCommand_64 : decode cX6_readCommand 64 = .ok (.iinc 4 1, 3) := by decide +kernel
theorem dX6_readCommand_67 : decode cX6_readCommand 67 = .ok (.goto (-37), 3) := by decide +kernel
theorem dX6_readCommand_70 : decode cX6_readCommand 70 = .ok (.iload_n 3, 1) := by decide +kernel
theorem dX6_readCommand_71 : decode cX6_readCommand 71 = .ok (.ireturn, 1) := by decide +kernel
theorem dX6_readNumber_0 : decode cX6_readNumber 0 = .ok (.iconst 0, 1) := by decide +kernel
theorem dX6_readNumber_1 : decode cX6_readNumber 1 = .ok (.istore 4, 2) := by decide +kernel
theorem dX6_readNumber_3 : decode cX6_readNumber 3 = .ok (.iload_n 1, 1) := by decide +kernel
theorem dX6_readNumber_4 : decode cX6_readNumber 4 = .ok (.istore 5, 2) := by decide +kernel
theorem dX6_readNumber_6 : decode cX6_readNumber 6 = .ok (.iload 5, 2) := by decide +kernel
theorem dX6_readNumber_8 : decode cX6_readNumber 8 = .ok (.iload_n 1, 1) := by decide +kernel
theorem dX6_readNumber_9 : decode cX6_readNumber 9 = .ok (.iconst 3, 1) := by decide +kernel
theorem dX6_readNumber_10 : decode cX6_readNumber 10 = .ok (.iadd, 1) := by decide +kernel
theorem dX6_readNumber_11 : decode cX6_readNumber 11 = .ok (.if_icmp .ge 38, 3) := by decide +kernel
theorem dX6_readNumber_14 : decode cX6_readNumber 14 = .ok (.aload_n 0, 1) := by decide +kernel
theorem dX6_readNumber_15 : decode cX6_readNumber 15 = .ok (.iload 5, 2) := by decide +kernel
theorem dX6_readNumber_17 : decode cX6_readNumber 17 = .ok (.invokevirtual 65, 3) := by decide +kernel
theorem dX6_readNumber_20 : decode cX6_readNumber 20 = .ok (.invokestatic 76, 3) := by decide +kernel
theorem dX6_readNumber_23 : decode cX6_readNumber 23 = .ok (.ifCond .eq 26, 3) := by decide +kernel
theorem dX6_readNumber_26 : decode cX6_readNumber 26 = .ok (.iload 4, 2) := by decide +kernel
theorem dX6_readNumber_28 : decode cX6_readNumber 28 = .ok (.bipush 10, 2) := by decide +kernel
theorem dX6_readNumber_30 : decode cX6_readNumber 30 = .ok (.imul, 1) := by decide +kernel
theorem dX6_readNumber_31 : decode cX6_readNumber 31 = .ok (.aload_n 0, 1) := by decide +kernel
theorem dX6_readNumber_32 : decode cX6_readNumber 32 = .ok (.iload 5, 2) := by decide +kernel
theorem dX6_readNumber_34 : decode cX6_readNumber 34 = .ok (.invokevirtual 65, 3) := by decide +kernel
theorem dX6_readNumber_37 : decode cX6_readNumber 37 = .ok (.bipush 48, 2) := by decide +kernel
theorem dX6_readNumber_39 : decode cX6_readNumber 39 = .ok (.isub, 1) := by decide +kernel
theorem dX6_readNumber_40 : decode cX6_readNumber 40 = .ok (.iadd, 1) := by decide +kernel
theorem dX6_readNumber_41 : decode cX6_readNumber 41 = .ok (.istore 4, 2) := by decide +kernel
theorem dX6_readNumber_43 : decode cX6_readNumber 43 = .ok (.iinc 5 1, 3) := by decide +kernel
theorem dX6_readNumber_46 : decode cX6_readNumber 46 = .ok (.goto (-40), 3) := by decide +kernel
theorem dX6_readNumber_49 : decode cX6_readNumber 49 = .ok (.iload 5, 2) := by decide +kernel
theorem dX6_readNumber_51 : decode cX6_readNumber 51 = .ok (.iload_n 1, 1) := by decide +kernel
theorem dX6_readNumber_52 : decode cX6_readNumber 52 = .ok (.if_icmp .eq 26, 3) := by decide +kernel
theorem dX6_readNumber_55 : decode cX6_readNumber 55 = .ok (.aload_n 0, 1) := by decide +kernel
theorem dX6_readNumber_56 : decode cX6_readNumber 56 = .ok (.iload 5, 2) := by decide +kernel
theorem dX6_readNumber_58 : decode cX6_readNumber 58 = .ok (.invokevirtual 65, 3) := by decide +kernel
theorem dX6_readNumber_61 : decode cX6_readNumber 61 = .ok (.iload_n 3, 1) := by decide +kernel
theorem dX6_readNumber_62 : decode cX6_readNumber 62 = .ok (.if_icmp .ne 16, 3) := by decide +kernel
theorem dX6_readNumber_65 : decode cX6_readNumber 65 = .ok (.iload_n 2, 1) := by decide +kernel
theorem dX6_readNumber_66 : decode cX6_readNumber 66 = .ok (.ifCond .lt 12, 3) := by decide +kernel
theorem dX6_readNumber_69 : decode cX6_readNumber 69 = .ok (.iload_n 2, 1) := by decide +kernel
theorem dX6_readNumber_70 : decode cX6_readNumber 70 = .ok (.aload_n 0, 1) := by decide +kernel
theorem dX6_readNumber_71 : decode cX6_readNumber 71 = .ok (.getfield 15, 3) := by decide +kernel
theorem dX6_readNumber_74 : decode cX6_readNumber 74 = .ok (.arraylength, 1) := by decide +kernel
theorem dX6_readNumber_75 : decode cX6_readNumber 75 = .ok (.if_icmp .lt 5, 3) := by decide +kernel
theorem dX6_readNumber_78 : decode cX6_readNumber 78 = .ok (.iconst (-1), 1) := by decide +kernel
theorem dX6_readNumber_79 : decode cX6_readNumber 79 = .ok (.ireturn, 1) := by decide +kernel
theorem dX6_readNumber_80 : decode cX6_readNumber 80 = .ok (.aload_n 0, 1) := by decide +kernel
theorem dX6_readNumber_81 : decode cX6_readNumber 81 = .ok (.getfield 15, 3) := by decide +kernel
theorem dX6_readNumber_84 : decode cX6_readNumber 84 = .ok (.iload_n 2, 1) := by decide +kernel
theorem dX6_readNumber_85 : decode cX6_readNumber 85 = .ok (.iload 4, 2) := by decide +kernel
theorem dX6_readNumber_87 : decode cX6_readNumber 87 = .ok (.iastore, 1) := by decide +kernel
theorem dX6_readNumber_88 : decode cX6_readNumber 88 = .ok (.iload 5, 2) := by decide +kernel
theorem dX6_readNumber_90 : decode cX6_readNumber 90 = .ok (.iconst 1, 1) := by decide +kernel
theorem dX6_readNumber_91 : decode cX6_readNumber 91 = .ok (.iadd, 1) := by decide +kernel
theorem dX6_readNumber_92 : decode cX6_readNumber 92 = .ok (.ireturn, 1) := by decide +kernel
theorem dX6_signAt_0 : decode cX6_signAt 0 = .ok (.iload_n 1, 1) := by decide +kernel
theorem dX6_signAt_1 : decode cX6_signAt 1 = .ok (.ifCond .lt 29, 3) := by decide +kernel
theorem dX6_signAt_4 : decode cX6_signAt 4 = .ok (.iload_n 1, 1) := by decide +kernel
theorem dX6_signAt_5 : decode cX6_signAt 5 = .ok (.aload_n 0, 1) := by decide +kernel
theorem dX6_signAt_6 : decode cX6_signAt 6 = .ok (.getfield 23, 3) := by decide +kernel
theorem dX6_signAt_9 : decode cX6_signAt 9 = .ok (.if_icmp .ge 21, 3) := by decide +kernel
theorem dX6_signAt_12 : decode cX6_signAt 12 = .ok (.iload_n 1, 1) := by decide +kernel
theorem dX6_signAt_13 : decode cX6_signAt 13 = .ok (.aload_n 0, 1) := by decide +kernel
theorem dX6_signAt_14 : decode cX6_signAt 14 = .ok (.getfield 9, 3) := by decide +kernel
theorem dX6_signAt_17 : decode cX6_signAt 17 = .ok (.arraylength, 1) := by decide +kernel
theorem dX6_signAt_18 : decode cX6_signAt 18 = .ok (.if_icmp .ge 12, 3) := by decide +kernel
theorem dX6_signAt_21 : decode cX6_signAt 21 = .ok (.aload_n 0, 1) := by decide +kernel
theorem dX6_signAt_22 : decode cX6_signAt 22 = .ok (.getfield 9, 3) := by decide +kernel
theorem dX6_signAt_25 : decode cX6_signAt 25 = .ok (.iload_n 1, 1) := by decide +kernel
theorem dX6_signAt_26 : decode cX6_signAt 26 = .ok (.caload, 1) := by decide +kernel
theorem dX6_signAt_27 : decode cX6_signAt 27 = .ok (.goto 4, 3) := by decide +kernel
theorem dX6_signAt_30 : decode cX6_signAt 30 = .ok (.iconst 0, 1) := by decide +kernel
theorem dX6_signAt_31 : decode cX6_signAt 31 = .ok (.ireturn, 1) := by decide +kernel
theorem dX6_isDigit_0 : decode cX6_isDigit 0 = .ok (.iload_n 0, 1) := by decide +kernel
theorem dX6_isDigit_1 : decode cX6_isDigit 1 = .ok (.bipush 48, 2) := by decide +kernel
theorem dX6_isDigit_3 : decode cX6_isDigit 3 = .ok (.if_icmp .lt 13, 3) := by decide +kernel
theorem dX6_isDigit_6 : decode cX6_isDigit 6 = .ok (.iload_n 0, 1) := by decide +kernel
theorem dX6_isDigit_7 : decode cX6_isDigit 7 = .ok (.bipush 57, 2) := by decide +kernel
theorem dX6_isDigit_9 : decode cX6_isDigit 9 = .ok (.if_icmp .gt 7, 3) := by decide +kernel
theorem dX6_isDigit_12 : decode cX6_isDigit 12 = .ok (.iconst 1, 1) := by decide +kernel
theorem dX6_isDigit_13 : decode cX6_isDigit 13 = .ok (.goto 4, 3) := by decide +kernel
theorem dX6_isDigit_16 : decode cX6_isDigit 16 = .ok (.iconst 0, 1) := by decide +kernel
theorem dX6_isDigit_17 : decode cX6_isDigit 17 = .ok (.ireturn, 1) := by decide +kernel
theorem dX6_numbersAfter_0 : decode cX6_numbersAfter 0 = .ok (.iload_n 0, 1) := by decide +kernel
theorem dX6_numbersAfter_1 : decode cX6_numbersAfter 1 = .ok (.lookupswitch 57 #[(97, 53), (107, 51), (111, 55), (114, 51), (116, 51)], 51) := by decide +kernel
theorem dX6_numbersAfter_52 : decode cX6_numbersAfter 52 = .ok (.iconst 1, 1) := by decide +kernel
theorem dX6_numbersAfter_53 : decode cX6_numbersAfter 53 = .ok (.ireturn, 1) := by decide +kernel
theorem dX6_numbersAfter_54 : decode cX6_numbersAfter 54 = .ok (.iconst 2, 1) := by decide +kernel
theorem dX6_numbersAfter_55 : decode cX6_numbersAfter 55 = .ok (.ireturn, 1) := by decide +kernel
theorem dX6_numbersAfter_56 : decode cX6_numbersAfter 56 = .ok (.iconst 3, 1) := by decide +kernel
theorem dX6_numbersAfter_57 : decode cX6_numbersAfter 57 = .ok (.ireturn, 1) := by decide +kernel
theorem dX6_numbersAfter_58 : decode cX6_numbersAfter 58 = .ok (.iconst 0, 1) := by decide +kernel
theorem dX6_numbersAfter_59 : decode cX6_numbersAfter 59 = .ok (.ireturn, 1) := by decide +kernel
theorem dX7_init_0 : decode cX7_init 0 = .ok (.aload_n 0, 1) := by decide +kernel
theorem dX7_init_1 : decode cX7_init 1 = .ok (.invokespecial 3, 3) := by decide +kernel
theorem dX7_init_4 : decode cX7_init 4 = .ok (.return_, 1) := by decide +kernel
theorem dX7_put_0 : decode cX7_put 0 = .ok (.aload_n 0, 1) := by decide +kernel
theorem dX7_put_1 : decode cX7_put 1 = .ok (.iload_n 1, 1) := by decide +kernel
theorem dX7_put_2 : decode cX7_put 2 = .ok (.putfield 9, 3) := by decide +kernel
theorem dX7_put_5 : decode cX7_put 5 = .ok (.aload_n 0, 1) := by decide +kernel
theorem dX7_put_6 : decode cX7_put 6 = .ok (.iload_n 2, 1) := by decide +kernel
theorem dX7_put_7 : decode cX7_put 7 = .ok (.putfield 15, 3) := by decide +kernel
theorem dX7_put_10 : decode cX7_put 10 = .ok (.return_, 1) := by decide +kernel
theorem dX7_has_0 : decode cX7_has 0 = .ok (.aload_n 0, 1) := by decide +kernel
theorem dX7_has_1 : decode cX7_has 1 = .ok (.getfield 9, 3) := by decide +kernel
theorem dX7_has_4 : decode cX7_has 4 = .ok (.aload_n 0, 1) := by decide +kernel
theorem dX7_has_5 : decode cX7_has 5 = .ok (.getfield 15, 3) := by decide +kernel
theorem dX7_has_8 : decode cX7_has 8 = .ok (.if_icmp .gt 25, 3) := by decide +kernel
theorem dX7_has_11 : decode cX7_has 11 = .ok (.iload_n 1, 1) := by decide +kernel
theorem dX7_has_12 : decode cX7_has 12 = .ok (.aload_n 0, 1) := by decide +kernel
theorem dX7_has_13 : decode cX7_has 13 = .ok (.getfield 9, 3) := by decide +kernel
theorem dX7_has_16 : decode cX7_has 16 = .ok (.if_icmp .lt 15, 3) := by decide +kernel
theorem dX7_has_19 : decode cX7_has 19 = .ok (.iload_n 1, 1) := by decide +kernel
theorem dX7_has_20 : decode cX7_has 20 = .ok (.aload_n 0, 1) := by decide +kernel
theorem dX7_has_21 : decode cX7_has 21 = .ok (.getfield 15, 3) := by decide +kernel
theorem dX7_has_24 : decode cX7_has 24 = .ok (.if_icmp .ge 7, 3) := by decide +kernel
theorem dX7_has_27 : decode cX7_has 27 = .ok (.iconst 1, 1) := by decide +kernel
theorem dX7_has_28 : decode cX7_has 28 = .ok (.goto 4, 3) := by decide +kernel
theorem dX7_has_31 : decode cX7_has 31 = .ok (.iconst 0, 1) := by decide +kernel
theorem dX7_has_32 : decode cX7_has 32 = .ok (.ireturn, 1) := by decide +kernel
theorem dX7_has_33 : decode cX7_has 33 = .ok (.iload_n 1, 1) := by decide +kernel
theorem dX7_has_34 : decode cX7_has 34 = .ok (.aload_n 0, 1) := by decide +kernel
theorem dX7_has_35 : decode cX7_has 35 = .ok (.getfield 9, 3) := by decide +kernel
theorem dX7_has_38 : decode cX7_has 38 = .ok (.if_icmp .ge 11, 3) := by decide +kernel
theorem dX7_has_41 : decode cX7_has 41 = .ok (.iload_n 1, 1) := by decide +kernel
theorem dX7_has_42 : decode cX7_has 42 = .ok (.aload_n 0, 1) := by decide +kernel
theorem dX7_has_43 : decode cX7_has 43 = .ok (.getfield 15, 3) := by decide +kernel
theorem dX7_has_46 : decode cX7_has 46 = .ok (.if_icmp .ge 7, 3) := by decide +kernel
theorem dX7_has_49 : decode cX7_has 49 = .ok (.iconst 1, 1) := by decide +kernel
theorem dX7_has_50 : decode cX7_has 50 = .ok (.goto 4, 3) := by decide +kernel
theorem dX7_has_53 : decode cX7_has 53 = .ok (.iconst 0, 1) := by decide +kernel
theorem dX7_has_54 : decode cX7_has 54 = .ok (.ireturn, 1) := by decide +kernel
theorem dX7_hours_0 : decode cX7_hours 0 = .ok (.aload_n 0, 1) := by decide +kernel
theorem dX7_hours_1 : decode cX7_hours 1 = .ok (.getfield 9, 3) := by decide +kernel
theorem dX7_hours_4 : decode cX7_hours 4 = .ok (.aload_n 0, 1) := by decide +kernel
theorem dX7_hours_5 : decode cX7_hours 5 = .ok (.getfield 15, 3) := by decide +kernel
theorem dX7_hours_8 : decode cX7_hours 8 = .ok (.if_icmp .gt 15, 3) := by decide +kernel
theorem dX7_hours_11 : decode cX7_hours 11 = .ok (.aload_n 0, 1) := by decide +kernel
theorem dX7_hours_12 : decode cX7_hours 12 = .ok (.getfield 15, 3) := by decide +kernel
theorem dX7_hours_15 : decode cX7_hours 15 = .ok (.aload_n 0, 1) := by decide +kernel
theorem dX7_hours_16 : decode cX7_hours 16 = .ok (.getfield 9, 3) := by decide +kernel
theorem dX7_hours_19 : decode cX7_hours 19 = .ok (.isub, 1) := by decide +kernel
theorem dX7_hours_20 : decode cX7_hours 20 = .ok (.goto 15, 3) := by decide +kernel
theorem dX7_hours_23 : decode cX7_hours 23 = .ok (.aload_n 0, 1) := by decide +kernel
theorem dX7_hours_24 : decode cX7_hours 24 = .ok (.getfield 15, 3) := by decide +kernel
theorem dX7_hours_27 : decode cX7_hours 27 = .ok (.aload_n 0, 1) := by decide +kernel
theorem dX7_hours_28 : decode cX7_hours 28 = .ok (.getfield 9, 3) := by decide +kernel
theorem dX7_hours_31 : decode cX7_hours 31 = .ok (.isub, 1) := by decide +kernel
theorem dX7_hours_32 : decode cX7_hours 32 = .ok (.bipush 24, 2) := by decide +kernel
theorem dX7_hours_34 : decode cX7_hours 34 = .ok (.iadd, 1) := by decide +kernel
theorem dX7_hours_35 : decode cX7_hours 35 = .ok (.ireturn, 1) := by decide +kernel
theorem dX7_isHour_0 : decode cX7_isHour 0 = .ok (.iload_n 0, 1) := by decide +kernel
theorem dX7_isHour_1 : decode cX7_isHour 1 = .ok (.ifCond .lt 13, 3) := by decide +kernel
theorem dX7_isHour_4 : decode cX7_isHour 4 = .ok (.iload_n 0, 1) := by decide +kernel
theorem dX7_isHour_5 : decode cX7_isHour 5 = .ok (.bipush 24, 2) := by decide +kernel
theorem dX7_isHour_7 : decode cX7_isHour 7 = .ok (.if_icmp .ge 7, 3) := by decide +kernel
theorem dX7_isHour_10 : decode cX7_isHour 10 = .ok (.iconst 1, 1) := by decide +kernel
theorem dX7_isHour_11 : decode cX7_isHour 11 = .ok (.goto 4, 3) := by decide +kernel
theorem dX7_isHour_14 : decode cX7_isHour 14 = .ok (.iconst 0, 1) := by decide +kernel
theorem dX7_isHour_15 : decode cX7_isHour 15 = .ok (.ireturn, 1) := by decide +kernel
theorem dX8_init_0 : decode cX8_init 0 = .ok (.aload_n 0, 1) := by decide +kernel
theorem dX8_init_1 : decode cX8_init 1 = .ok (.invokespecial 1, 3) := by decide +kernel
theorem dX8_init_4 : decode cX8_init 4 = .ok (.return_, 1) := by decide +kernel
theorem dX8_copyFrom_0 : decode cX8_copyFrom 0 = .ok (.aload_n 0, 1) := by decide +kernel
theorem dX8_copyFrom_1 : decode cX8_copyFrom 1 = .ok (.aload_n 1, 1) := by decide +kernel
theorem dX8_copyFrom_2 : decode cX8_copyFrom 2 = .ok (.getfield 7, 3) := by decide +kernel
theorem dX8_copyFrom_5 : decode cX8_copyFrom 5 = .ok (.putfield 7, 3) := by decide +kernel
theorem dX8_copyFrom_8 : decode cX8_copyFrom 8 = .ok (.aload_n 0, 1) := by decide +kernel
theorem dX8_copyFrom_9 : decode cX8_copyFrom 9 = .ok (.aload_n 1, 1) := by decide +kernel
theorem dX8_copyFrom_10 : decode cX8_copyFrom 10 = .ok (.getfield 13, 3) := by decide +kernel
theorem dX8_copyFrom_13 : decode cX8_copyFrom 13 = .ok (.putfield 13, 3) := by decide +kernel
theorem dX8_copyFrom_16 : decode cX8_copyFrom 16 = .ok (.aload_n 0, 1) := by decide +kernel
theorem dX8_copyFrom_17 : decode cX8_copyFrom 17 = .ok (.aload_n 1, 1) := by decide +kernel
theorem dX8_copyFrom_18 : decode cX8_copyFrom 18 = .ok (.getfield 16, 3) := by decide +kernel
theorem dX8_copyFrom_21 : decode cX8_copyFrom 21 = .ok (.putfield 16, 3) := by decide +kernel
theorem dX8_copyFrom_24 : decode cX8_copyFrom 24 = .ok (.return_, 1) := by decide +kernel
theorem dX8_isInForce_0 : decode cX8_isInForce 0 = .ok (.iload_n 1, 1) := by decide +kernel
theorem dX8_isInForce_1 : decode cX8_isInForce 1 = .ok (.aload_n 0, 1) := by decide +kernel
theorem dX8_isInForce_2 : decode cX8_isInForce 2 = .ok (.getfield 16, 3) := by decide +kernel
theorem dX8_isInForce_5 : decode cX8_isInForce 5 = .ok (.if_icmp .ge 7, 3) := by decide +kernel
theorem dX8_isInForce_8 : decode cX8_isInForce 8 = .ok (.iconst 1, 1) := by decide +kernel
theorem dX8_isInForce_9 : decode cX8_isInForce 9 = .ok (.goto 4, 3) := by decide +kernel
theorem dX8_isInForce_12 : decode cX8_isInForce 12 = .ok (.iconst 0, 1) := by decide +kernel
theorem dX8_isInForce_13 : decode cX8_isInForce 13 = .ok (.ireturn, 1) := by decide +kernel
theorem dX9_init_0 : decode cX9_init 0 = .ok (.aload_n 0, 1) := by decide +kernel
theorem dX9_init_1 : decode cX9_init 1 = .ok (.invokespecial 3, 3) := by decide +kernel
theorem dX9_init_4 : decode cX9_init 4 = .ok (.return_, 1) := by decide +kernel
theorem dX9_copyFrom_0 : decode cX9_copyFrom 0 = .ok (.aload_n 0, 1) := by decide +kernel
theorem dX9_copyFrom_1 : decode cX9_copyFrom 1 = .ok (.aload_n 1, 1) := by decide +kernel
theorem dX9_copyFrom_2 : decode cX9_copyFrom 2 = .ok (.getfield 9, 3) := by decide +kernel
theorem dX9_copyFrom_5 : decode cX9_copyFrom 5 = .ok (.putfield 9, 3) := by decide +kernel
theorem dX9_copyFrom_8 : decode cX9_copyFrom 8 = .ok (.aload_n 0, 1) := by decide +kernel
theorem dX9_copyFrom_9 : decode cX9_copyFrom 9 = .ok (.aload_n 1, 1) := by decide +kernel
theorem dX9_copyFrom_10 : decode cX9_copyFrom 10 = .ok (.getfield 15, 3) := by decide +kernel
theorem dX9_copyFrom_13 : decode cX9_copyFrom 13 = .ok (.putfield 15, 3) := by decide +kernel
theorem dX9_copyFrom_16 : decode cX9_copyFrom 16 = .ok (.aload_n 0, 1) := by decide +kernel
theorem dX9_copyFrom_17 : decode cX9_copyFrom 17 = .ok (.aload_n 1, 1) := by decide +kernel
theorem dX9_copyFrom_18 : decode cX9_copyFrom 18 = .ok (.getfield 18, 3) := by decide +kernel
theorem dX9_copyFrom_21 : decode cX9_copyFrom 21 = .ok (.putfield 18, 3) := by decide +kernel
theorem dX9_copyFrom_24 : decode cX9_copyFrom 24 = .ok (.aload_n 0, 1) := by decide +kernel
theorem dX9_copyFrom_25 : decode cX9_copyFrom 25 = .ok (.aload_n 1, 1) := by decide +kernel
theorem dX9_copyFrom_26 : decode cX9_copyFrom 26 = .ok (.getfield 21, 3) := by decide +kernel
theorem dX9_copyFrom_29 : decode cX9_copyFrom 29 = .ok (.putfield 21, 3) := by decide +kernel
theorem dX9_copyFrom_32 : decode cX9_copyFrom 32 = .ok (.aload_n 0, 1) := by decide +kernel
theorem dX9_copyFrom_33 : decode cX9_copyFrom 33 = .ok (.aload_n 1, 1) := by decide +kernel
theorem dX9_copyFrom_34 : decode cX9_copyFrom 34 = .ok (.getfield 24, 3) := by decide +kernel
theorem dX9_copyFrom_37 : decode cX9_copyFrom 37 = .ok (.putfield 24, 3) := by decide +kernel
theorem dX9_copyFrom_40 : decode cX9_copyFrom 40 = .ok (.aload_n 0, 1) := by decide +kernel
theorem dX9_copyFrom_41 : decode cX9_copyFrom 41 = .ok (.aload_n 1, 1) := by decide +kernel
theorem dX9_copyFrom_42 : decode cX9_copyFrom 42 = .ok (.getfield 27, 3) := by decide +kernel
theorem dX9_copyFrom_45 : decode cX9_copyFrom 45 = .ok (.putfield 27, 3) := by decide +kernel
theorem dX9_copyFrom_48 : decode cX9_copyFrom 48 = .ok (.aload_n 0, 1) := by decide +kernel
theorem dX9_copyFrom_49 : decode cX9_copyFrom 49 = .ok (.aload_n 1, 1) := by decide +kernel
theorem dX9_copyFrom_50 : decode cX9_copyFrom 50 = .ok (.getfield 30, 3) := by decide +kernel
theorem dX9_copyFrom_53 : decode cX9_copyFrom 53 = .ok (.putfield 30, 3) := by decide +kernel
theorem dX9_copyFrom_56 : decode cX9_copyFrom 56 = .ok (.aload_n 0, 1) := by decide +kernel
theorem dX9_copyFrom_57 : decode cX9_copyFrom 57 = .ok (.aload_n 1, 1) := by decide +kernel
theorem dX9_copyFrom_58 : decode cX9_copyFrom 58 = .ok (.getfield 33, 3) := by decide +kernel
theorem dX9_copyFrom_61 : decode cX9_copyFrom 61 = .ok (.putfield 33, 3) := by decide +kernel
theorem dX9_copyFrom_64 : decode cX9_copyFrom 64 = .ok (.aload_n 0, 1) := by decide +kernel
theorem dX9_copyFrom_65 : decode cX9_copyFrom 65 = .ok (.aload_n 1, 1) := by decide +kernel
theorem dX9_copyFrom_66 : decode cX9_copyFrom 66 = .ok (.getfield 36, 3) := by decide +kernel
theorem dX9_copyFrom_69 : decode cX9_copyFrom 69 = .ok (.putfield 36, 3) := by decide +kernel
theorem dX9_copyFrom_72 : decode cX9_copyFrom 72 = .ok (.aload_n 0, 1) := by decide +kernel
theorem dX9_copyFrom_73 : decode cX9_copyFrom 73 = .ok (.aload_n 1, 1) := by decide +kernel
theorem dX9_copyFrom_74 : decode cX9_copyFrom 74 = .ok (.getfield 39, 3) := by decide +kernel
theorem dX9_copyFrom_77 : decode cX9_copyFrom 77 = .ok (.putfield 39, 3) := by decide +kernel
theorem dX9_copyFrom_80 : decode cX9_copyFrom 80 = .ok (.return_, 1) := by decide +kernel
theorem dX9_numbered_0 : decode cX9_numbered 0 = .ok (.iload_n 1, 1) := by decide +kernel
theorem dX9_numbered_1 : decode cX9_numbered 1 = .ok (.tableswitch 78 6 12 #[43, 48, 53, 58, 63, 68, 73], 43) := by decide +kernel
theorem dX9_numbered_44 : decode cX9_numbered 44 = .ok (.aload_n 0, 1) := by decide +kernel
theorem dX9_numbered_45 : decode cX9_numbered 45 = .ok (.getfield 9, 3) := by decide +kernel
theorem dX9_numbered_48 : decode cX9_numbered 48 = .ok (.ireturn, 1) := by decide +kernel
theorem dX9_numbered_49 : decode cX9_numbered 49 = .ok (.aload_n 0, 1) := by decide +kernel
theorem dX9_numbered_50 : decode cX9_numbered 50 = .ok (.getfield 15, 3) := by decide +kernel
theorem dX9_numbered_53 : decode cX9_numbered 53 = .ok (.ireturn, 1) := by decide +kernel
theorem dX9_numbered_54 : decode cX9_numbered 54 = .ok (.aload_n 0, 1) := by decide +kernel
theorem dX9_numbered_55 : decode cX9_numbered 55 = .ok (.getfield 18, 3) := by decide +kernel
theorem dX9_numbered_58 : decode cX9_numbered 58 = .ok (.ireturn, 1) := by decide +kernel
theorem dX9_numbered_59 : decode cX9_numbered 59 = .ok (.aload_n 0, 1) := by decide +kernel
theorem dX9_numbered_60 : decode cX9_numbered 60 = .ok (.getfield 21, 3) := by decide +kernel
theorem dX9_numbered_63 : decode cX9_numbered 63 = .ok (.ireturn, 1) := by decide +kernel
theorem dX9_numbered_64 : decode cX9_numbered 64 = .ok (.aload_n 0, 1) := by decide +kernel
theorem dX9_numbered_65 : decode cX9_numbered 65 = .ok (.getfield 24, 3) := by decide +kernel
theorem dX9_numbered_68 : decode cX9_numbered 68 = .ok (.ireturn, 1) := by decide +kernel
theorem dX9_numbered_69 : decode cX9_numbered 69 = .ok (.aload_n 0, 1) := by decide +kernel
theorem dX9_numbered_70 : decode cX9_numbered 70 = .ok (.getfield 27, 3) := by decide +kernel
theorem dX9_numbered_73 : decode cX9_numbered 73 = .ok (.ireturn, 1) := by decide +kernel
theorem dX9_numbered_74 : decode cX9_numbered 74 = .ok (.aload_n 0, 1) := by decide +kernel
theorem dX9_numbered_75 : decode cX9_numbered 75 = .ok (.getfield 30, 3) := by decide +kernel
theorem dX9_numbered_78 : decode cX9_numbered 78 = .ok (.ireturn, 1) := by decide +kernel
theorem dX9_numbered_79 : decode cX9_numbered 79 = .ok (.iconst (-1), 1) := by decide +kernel
theorem dX9_numbered_80 : decode cX9_numbered 80 = .ok (.ireturn, 1) := by decide +kernel
theorem dX10_init_0 : decode cX10_init 0 = .ok (.aload_n 0, 1) := by decide +kernel
theorem dX10_init_1 : decode cX10_init 1 = .ok (.invokespecial 1, 3) := by decide +kernel
theorem dX10_init_4 : decode cX10_init 4 = .ok (.aload_n 0, 1) := by decide +kernel
theorem dX10_init_5 : decode cX10_init 5 = .ok (.new 7, 3) := by decide +kernel
theorem dX10_init_8 : decode cX10_init 8 = .ok (.dup, 1) := by decide +kernel
theorem dX10_init_9 : decode cX10_init 9 = .ok (.invokespecial 9, 3) := by decide +kernel
theorem dX10_init_12 : decode cX10_init 12 = .ok (.putfield 10, 3) := by decide +kernel
theorem dX10_init_15 : decode cX10_init 15 = .ok (.aload_n 0, 1) := by decide +kernel
theorem dX10_init_16 : decode cX10_init 16 = .ok (.new 7, 3) := by decide +kernel
theorem dX10_init_19 : decode cX10_init 19 = .ok (.dup, 1) := by decide +kernel
theorem dX10_init_20 : decode cX10_init 20 = .ok (.invokespecial 9, 3) := by decide +kernel
theorem dX10_init_23 : decode cX10_init 23 = .ok (.putfield 16, 3) := by decide +kernel
theorem dX10_init_26 : decode cX10_init 26 = .ok (.aload_n 0, 1) := by decide +kernel
theorem dX10_init_27 : decode cX10_init 27 = .ok (.new 19, 3) := by decide +kernel
theorem dX10_init_30 : decode cX10_init 30 = .ok (.dup, 1) := by decide +kernel
theorem dX10_init_31 : decode cX10_init 31 = .ok (.invokespecial 21, 3) := by decide +kernel
theorem dX10_init_34 : decode cX10_init 34 = .ok (.putfield 22, 3) := by decide +kernel
theorem dX10_init_37 : decode cX10_init 37 = .ok (.aload_n 0, 1) := by decide +kernel
theorem dX10_init_38 : decode cX10_init 38 = .ok (.new 26, 3) := by decide +kernel
theorem dX10_init_41 : decode cX10_init 41 = .ok (.dup, 1) := by decide +kernel
theorem dX10_init_42 : decode cX10_init 42 = .ok (.invokespecial 28, 3) := by decide +kernel
theorem dX10_init_45 : decode cX10_init 45 = .ok (.putfield 29, 3) := by decide +kernel
theorem dX10_init_48 : decode cX10_init 48 = .ok (.return_, 1) := by decide +kernel
theorem dX10_person_0 : decode cX10_person 0 = .ok (.aload_n 0, 1) := by decide +kernel
theorem dX10_person_1 : decode cX10_person 1 = .ok (.getfield 22, 3) := by decide +kernel
theorem dX10_person_4 : decode cX10_person 4 = .ok (.aload_n 0, 1) := by decide +kernel
theorem dX10_person_5 : decode cX10_person 5 = .ok (.getfield 10, 3) := by decide +kernel
theorem dX10_person_8 : decode cX10_person 8 = .ok (.invokevirtual 33, 3) := by decide +kernel
theorem dX10_person_11 : decode cX10_person 11 = .ok (.aload_n 0, 1) := by decide +kernel
theorem dX10_person_12 : decode cX10_person 12 = .ok (.aload_n 0, 1) := by decide +kernel
theorem dX10_person_13 : decode cX10_person 13 = .ok (.getfield 10, 3) := by decide +kernel
theorem dX10_person_16 : decode cX10_person 16 = .ok (.getfield 37, 3) := by decide +kernel
theorem dX10_person_19 : decode cX10_person 19 = .ok (.invokevirtual 41, 3) := by decide +kernel
theorem dX10_person_22 : decode cX10_person 22 = .ok (.invokevirtual 47, 3) := by decide +kernel
theorem dX10_person_25 : decode cX10_person 25 = .ok (.ireturn, 1) := by decide +kernel
theorem dX10_region_0 : decode cX10_region 0 = .ok (.aload_n 0, 1) := by decide +kernel
theorem dX10_region_1 : decode cX10_region 1 = .ok (.getfield 22, 3) := by decide +kernel
theorem dX10_region_4 : decode cX10_region 4 = .ok (.aload_n 0, 1) := by decide +kernel
theorem dX10_region_5 : decode cX10_region 5 = .ok (.getfield 10, 3) := by decide +kernel
theorem dX10_region_8 : decode cX10_region 8 = .ok (.invokevirtual 33, 3) := by decide +kernel
theorem dX10_region_11 : decode cX10_region 11 = .ok (.aload_n 0, 1) := by decide +kernel
theorem dX10_region_12 : decode cX10_region 12 = .ok (.aload_n 0, 1) := by decide +kernel
theorem dX10_region_13 : decode cX10_region 13 = .ok (.getfield 10, 3) := by decide +kernel
theorem dX10_region_16 : decode cX10_region 16 = .ok (.getfield 37, 3) := by decide +kernel
theorem dX10_region_19 : decode cX10_region 19 = .ok (.iload_n 1, 1) := by decide +kernel
theorem dX10_region_20 : decode cX10_region 20 = .ok (.iload_n 2, 1) := by decide +kernel
theorem dX10_region_21 : decode cX10_region 21 = .ok (.iload_n 3, 1) := by decide +kernel
theorem dX10_region_22 : decode cX10_region 22 = .ok (.invokevirtual 51, 3) := by decide +kernel
theorem dX10_region_25 : decode cX10_region 25 = .ok (.invokevirtual 47, 3) := by decide +kernel
theorem dX10_region_28 : decode cX10_region 28 = .ok (.ireturn, 1) := by decide +kernel
theorem dX10_join_0 : decode cX10_join 0 = .ok (.aload_n 0, 1) := by decide +kernel
theorem dX10_join_1 : decode cX10_join 1 = .ok (.getfield 22, 3) := by decide +kernel
theorem dX10_join_4 : decode cX10_join 4 = .ok (.aload_n 0, 1) := by decide +kernel
theorem dX10_join_5 : decode cX10_join 5 = .ok (.getfield 10, 3) := by decide +kernel
theorem dX10_join_8 : decode cX10_join 8 = .ok (.invokevirtual 33, 3) := by decide +kernel
theorem dX10_join_11 : decode cX10_join 11 = .ok (.aload_n 0, 1) := by decide +kernel
theorem dX10_join_12 : decode cX10_join 12 = .ok (.aload_n 0, 1) := by decide +kernel
theorem dX10_join_13 : decode cX10_join 13 = .ok (.getfield 10, 3) := by decide +kernel
theorem dX10_join_16 : decode cX10_join 16 = .ok (.getfield 37, 3) := by decide +kernel
theorem dX10_join_19 : decode cX10_join 19 = .ok (.iload_n 1, 1) := by decide +kernel
theorem dX10_join_20 : decode cX10_join 20 = .ok (.iload_n 2, 1) := by decide +kernel
theorem dX10_join_21 : decode cX10_join 21 = .ok (.invokevirtual 55, 3) := by decide +kernel
theorem dX10_join_24 : decode cX10_join 24 = .ok (.invokevirtual 47, 3) := by decide +kernel
theorem dX10_join_27 : decode cX10_join 27 = .ok (.ireturn, 1) := by decide +kernel
theorem dX10_leave_0 : decode cX10_leave 0 = .ok (.aload_n 0, 1) := by decide +kernel
theorem dX10_leave_1 : decode cX10_leave 1 = .ok (.getfield 22, 3) := by decide +kernel
theorem dX10_leave_4 : decode cX10_leave 4 = .ok (.aload_n 0, 1) := by decide +kernel
theorem dX10_leave_5 : decode cX10_leave 5 = .ok (.getfield 10, 3) := by decide +kernel
theorem dX10_leave_8 : decode cX10_leave 8 = .ok (.invokevirtual 33, 3) := by decide +kernel
theorem dX10_leave_11 : decode cX10_leave 11 = .ok (.aload_n 0, 1) := by decide +kernel
theorem dX10_leave_12 : decode cX10_leave 12 = .ok (.aload_n 0, 1) := by decide +kernel
theorem dX10_leave_13 : decode cX10_leave 13 = .ok (.getfield 10, 3) := by decide +kernel
theorem dX10_leave_16 : decode cX10_leave 16 = .ok (.getfield 37, 3) := by decide +kernel
theorem dX10_leave_19 : decode cX10_leave 19 = .ok (.iload_n 1, 1) := by decide +kernel
theorem dX10_leave_20 : decode cX10_leave 20 = .ok (.iload_n 2, 1) := by decide +kernel
theorem dX10_leave_21 : decode cX10_leave 21 = .ok (.invokevirtual 59, 3) := by decide +kernel
theorem dX10_leave_24 : decode cX10_leave 24 = .ok (.invokevirtual 47, 3) := by decide +kernel
theorem dX10_leave_27 : decode cX10_leave 27 = .ok (.ireturn, 1) := by decide +kernel
theorem dX10_quiet_0 : decode cX10_quiet 0 = .ok (.aload_n 0, 1) := by decide +kernel
theorem dX10_quiet_1 : decode cX10_quiet 1 = .ok (.getfield 22, 3) := by decide +kernel
theorem dX10_quiet_4 : decode cX10_quiet 4 = .ok (.aload_n 0, 1) := by decide +kernel
theorem dX10_quiet_5 : decode cX10_quiet 5 = .ok (.getfield 10, 3) := by decide +kernel
theorem dX10_quiet_8 : decode cX10_quiet 8 = .ok (.invokevirtual 33, 3) := by decide +kernel
theorem dX10_quiet_11 : decode cX10_quiet 11 = .ok (.aload_n 0, 1) := by decide +kernel
theorem dX10_quiet_12 : decode cX10_quiet 12 = .ok (.aload_n 0, 1) := by decide +kernel
theorem dX10_quiet_13 : decode cX10_quiet 13 = .ok (.getfield 10, 3) := by decide +kernel
theorem dX10_quiet_16 : decode cX10_quiet 16 = .ok (.getfield 37, 3) := by decide +kernel
theorem dX10_quiet_19 : decode cX10_quiet 19 = .ok (.iload_n 1, 1) := by decide +kernel
theorem dX10_quiet_20 : decode cX10_quiet 20 = .ok (.iload_n 2, 1) := by decide +kernel
theorem dX10_quiet_21 : decode cX10_quiet 21 = .ok (.iload_n 3, 1) := by decide +kernel
theorem dX10_quiet_22 : decode cX10_quiet 22 = .ok (.invokevirtual 62, 3) := by decide +kernel
theorem dX10_quiet_25 : decode cX10_quiet 25 = .ok (.invokevirtual 47, 3) := by decide +kernel
theorem dX10_quiet_28 : decode cX10_quiet 28 = .ok (.ireturn, 1) := by decide +kernel
theorem dX10_except_0 : decode cX10_except 0 = .ok (.aload_n 0, 1) := by decide +kernel
theorem dX10_except_1 : decode cX10_except 1 = .ok (.getfield 22, 3) := by decide +kernel
theorem dX10_except_4 : decode cX10_except 4 = .ok (.aload_n 0, 1) := by decide +kernel
theorem dX10_except_5 : decode cX10_except 5 = .ok (.getfield 10, 3) := by decide +kernel
theorem dX10_except_8 : decode cX10_except 8 = .ok (.invokevirtual 33, 3) := by decide +kernel
theorem dX10_except_11 : decode cX10_except 11 = .ok (.aload_n 0, 1) := by decide +kernel
theorem dX10_except_12 : decode cX10_except 12 = .ok (.aload_n 0, 1) := by decide +kernel
theorem dX10_except_13 : decode cX10_except 13 = .ok (.getfield 10, 3) := by decide +kernel
theorem dX10_except_16 : decode cX10_except 16 = .ok (.getfield 37, 3) := by decide +kernel
theorem dX10_except_19 : decode cX10_except 19 = .ok (.iload_n 1, 1) := by decide +kernel
theorem dX10_except_20 : decode cX10_except 20 = .ok (.iload_n 2, 1) := by decide +kernel
theorem dX10_except_21 : decode cX10_except 21 = .ok (.invokevirtual 65, 3) := by decide +kernel
theorem dX10_except_24 : decode cX10_except 24 = .ok (.invokevirtual 47, 3) := by decide +kernel
theorem dX10_except_27 : decode cX10_except 27 = .ok (.ireturn, 1) := by decide +kernel
theorem dX10_override_0 : decode cX10_override 0 = .ok (.aload_n 0, 1) := by decide +kernel
theorem dX10_override_1 : decode cX10_override 1 = .ok (.getfield 22, 3) := by decide +kernel
theorem dX10_override_4 : decode cX10_override 4 = .ok (.aload_n 0, 1) := by decide +kernel
theorem dX10_override_5 : decode cX10_override 5 = .ok (.getfield 10, 3) := by decide +kernel
theorem dX10_override_8 : decode cX10_override 8 = .ok (.invokevirtual 33, 3) := by decide +kernel
theorem dX10_override_11 : decode cX10_override 11 = .ok (.aload_n 0, 1) := by decide +kernel
theorem dX10_override_12 : decode cX10_override 12 = .ok (.aload_n 0, 1) := by decide +kernel
theorem dX10_override_13 : decode cX10_override 13 = .ok (.getfield 10, 3) := by decide +kernel
theorem dX10_override_16 : decode cX10_override 16 = .ok (.iload_n 1, 1) := by decide +kernel
theorem dX10_override_17 : decode cX10_override 17 = .ok (.iload_n 2, 1) := by decide +kernel
theorem dX10_override_18 : decode cX10_override 18 = .ok (.iload_n 3, 1) := by decide +kernel
theorem dX10_override_19 : decode cX10_override 19 = .ok (.invokevirtual 68, 3) := by decide +kernel
theorem dX10_override_22 : decode cX10_override 22 = .ok (.invokevirtual 47, 3) := by decide +kernel
theorem dX10_override_25 : decode cX10_override 25 = .ok (.ireturn, 1) := by decide +kernel
theorem dX10_rotaAt_0 : decode cX10_rotaAt 0 = .ok (.aload_n 0, 1) := by decide +kernel
theorem dX10_rotaAt_1 : decode cX10_rotaAt 1 = .ok (.getfield 10, 3) := by decide +kernel
theorem dX10_rotaAt_4 : decode cX10_rotaAt 4 = .ok (.getfield 37, 3) := by decide +kernel
theorem dX10_rotaAt_7 : decode cX10_rotaAt 7 = .ok (.iload_n 1, 1) := by decide +kernel
theorem dX10_rotaAt_8 : decode cX10_rotaAt 8 = .ok (.invokevirtual 71, 3) := by decide +kernel
theorem dX10_rotaAt_11 : decode cX10_rotaAt 11 = .ok (.ifCond .eq 7, 3) := by decide +kernel
theorem dX10_rotaAt_14 : decode cX10_rotaAt 14 = .ok (.iload_n 2, 1) := by decide +kernel
theorem dX10_rotaAt_15 : decode cX10_rotaAt 15 = .ok (.ifCond .ge 5, 3) := by decide +kernel
theorem dX10_rotaAt_18 : decode cX10_rotaAt 18 = .ok (.iconst (-1), 1) := by decide +kernel
theorem dX10_rotaAt_19 : decode cX10_rotaAt 19 = .ok (.ireturn, 1) := by decide +kernel
theorem dX10_rotaAt_20 : decode cX10_rotaAt 20 = .ok (.aload_n 0, 1) := by decide +kernel
theorem dX10_rotaAt_21 : decode cX10_rotaAt 21 = .ok (.getfield 10, 3) := by decide +kernel
theorem dX10_rotaAt_24 : decode cX10_rotaAt 24 = .ok (.getfield 37, 3) := by decide +kernel
theorem dX10_rotaAt_27 : decode cX10_rotaAt 27 = .ok (.getfield 75, 3) := by decide +kernel
theorem dX10_rotaAt_30 : decode cX10_rotaAt 30 = .ok (.iload_n 1, 1) := by decide +kernel
theorem dX10_rotaAt_31 : decode cX10_rotaAt 31 = .ok (.aaload, 1) := by decide +kernel
theorem dX10_rotaAt_32 : decode cX10_rotaAt 32 = .ok (.iload_n 2, 1) := by decide +kernel
theorem dX10_rotaAt_33 : decode cX10_rotaAt 33 = .ok (.invokevirtual 79, 3) := by decide +kernel
theorem dX10_rotaAt_36 : decode cX10_rotaAt 36 = .ok (.istore_n 3, 1) := by decide +kernel
theorem dX10_rotaAt_37 : decode cX10_rotaAt 37 = .ok (.iload_n 3, 1) := by decide +kernel
theorem dX10_rotaAt_38 : decode cX10_rotaAt 38 = .ok (.iconst (-1), 1) := by decide +kernel
theorem dX10_rotaAt_39 : decode cX10_rotaAt 39 = .ok (.if_icmp .ne 8, 3) := by decide +kernel
theorem dX10_rotaAt_42 : decode cX10_rotaAt 42 = .ok (.bipush (-4), 2) := by decide +kernel
theorem dX10_rotaAt_44 : decode cX10_rotaAt 44 = .ok (.goto 4, 3) := by decide +kernel
theorem dX10_rotaAt_47 : decode cX10_rotaAt 47 = .ok (.iload_n 3, 1) := by decide +kernel
theorem dX10_rotaAt_48 : decode cX10_rotaAt 48 = .ok (.ireturn, 1) := by decide +kernel
theorem dX10_personOf_0 : decode cX10_personOf 0 = .ok (.aload_n 0, 1) := by decide +kernel
theorem dX10_personOf_1 : decode cX10_personOf 1 = .ok (.getfield 10, 3) := by decide +kernel
theorem dX10_personOf_4 : decode cX10_personOf 4 = .ok (.getfield 37, 3) := by decide +kernel
theorem dX10_personOf_7 : decode cX10_personOf 7 = .ok (.iload_n 1, 1) := by decide +kernel
theorem dX10_personOf_8 : decode cX10_personOf 8 = .ok (.invokevirtual 84, 3) := by decide +kernel
theorem dX10_personOf_11 : decode cX10_personOf 11 = .ok (.ifCond .ne 5, 3) := by decide +kernel
theorem dX10_personOf_14 : decode cX10_personOf 14 = .ok (.iconst (-1), 1) := by decide +kernel
theorem dX10_personOf_15 : decode cX10_personOf 15 = .ok (.ireturn, 1) := by decide +kernel
theorem dX10_personOf_16 : decode cX10_personOf 16 = .ok (.aload_n 0, 1) := by decide +kernel
theorem dX10_personOf_17 : decode cX10_personOf 17 = .ok (.getfield 10, 3) := by decide +kernel
theorem dX10_personOf_20 : decode cX10_personOf 20 = .ok (.getfield 37, 3) := by decide +kernel
theorem dX10_personOf_23 : decode cX10_personOf 23 = .ok (.getfield 87, 3) := by decide +kernel
theorem dX10_personOf_26 : decode cX10_personOf 26 = .ok (.iload_n 1, 1) := by decide +kernel
theorem dX10_personOf_27 : decode cX10_personOf 27 = .ok (.aaload, 1) := by decide +kernel
theorem dX10_personOf_28 : decode cX10_personOf 28 = .ok (.astore_n 3, 1) := by decide +kernel
theorem dX10_personOf_29 : decode cX10_personOf 29 = .ok (.iload_n 2, 1) := by decide +kernel
theorem dX10_personOf_30 : decode cX10_personOf 30 = .ok (.tableswitch 115 0 6 #[42, 47, 57, 67, 72, 84, 110], 42) := by decide +kernel
theorem dX10_personOf_72 : decode cX10_personOf 72 = .ok (.aload_n 3, 1) := by decide +kernel
theorem dX10_personOf_73 : decode cX10_personOf 73 = .ok (.getfield 91, 3) := by decide +kernel
theorem dX10_personOf_76 : decode cX10_personOf 76 = .ok (.ireturn, 1) := by decide +kernel
theorem dX10_personOf_77 : decode cX10_personOf 77 = .ok (.aload_n 0, 1) := by decide +kernel
theorem dX10_personOf_78 : decode cX10_personOf 78 = .ok (.getfield 10, 3) := by decide +kernel
theorem dX10_personOf_81 : decode cX10_personOf 81 = .ok (.iload_n 1, 1) := by decide +kernel
theorem dX10_personOf_82 : decode cX10_personOf 82 = .ok (.iconst 0, 1) := by decide +kernel
theorem dX10_personOf_83 : decode cX10_personOf 83 = .ok (.invokevirtual 97, 3) := by decide +kernel
theorem dX10_personOf_86 : decode cX10_personOf 86 = .ok (.ireturn, 1) := by decide +kernel
theorem dX10_personOf_87 : decode cX10_personOf 87 = .ok (.aload_n 0, 1) := by decide +kernel
theorem dX10_personOf_88 : decode cX10_personOf 88 = .ok (.getfield 10, 3) := by decide +kernel
theorem dX10_personOf_91 : decode cX10_personOf 91 = .ok (.iload_n 1, 1) := by decide +kernel
theorem dX10_personOf_92 : decode cX10_personOf 92 = .ok (.iconst 1, 1) := by decide +kernel
theorem dX10_personOf_93 : decode cX10_personOf 93 = .ok (.invokevirtual 97, 3) := by decide +kernel
theorem dX10_personOf_96 : decode cX10_personOf 96 = .ok (.ireturn, 1) := by decide +kernel
theorem dX10_personOf_97 : decode cX10_personOf 97 = .ok (.aload_n 3, 1) := by decide +kernel
theorem dX10_personOf_98 : decode cX10_personOf 98 = .ok (.getfield 101, 3) := by decide +kernel
theorem dX10_personOf_101 : decode cX10_personOf 101 = .ok (.ireturn, 1) := by decide +kernel
theorem dX10_personOf_102 : decode cX10_personOf 102 = .ok (.aload_n 0, 1) := by decide +kernel
theorem dX10_personOf_103 : decode cX10_personOf 103 = .ok (.getfield 10, 3) := by decide +kernel
theorem dX10_personOf_106 : decode cX10_personOf 106 = .ok (.getfield 37, 3) := by decide +kernel
theorem dX10_personOf_109 : decode cX10_personOf 109 = .ok (.iload_n 1, 1) := by decide +kernel
theorem dX10_personOf_110 : decode cX10_personOf 110 = .ok (.invokevirtual 104, 3) := by decide +kernel
theorem dX10_personOf_113 : decode cX10_personOf 113 = .ok (.ireturn, 1) := by decide +kernel
theorem dX10_personOf_114 : decode cX10_personOf 114 = .ok (.aload_n 3, 1) := by decide +kernel
theorem dX10_personOf_115 : decode cX10_personOf 115 = .ok (.getfield 107, 3) := by decide +kernel
theorem dX10_personOf_118 : decode cX10_personOf 118 = .ok (.aload_n 0, 1) := by decide +kernel
theorem dX10_personOf_119 : decode cX10_personOf 119 = .ok (.getfield 10, 3) := by decide +kernel
theorem dX10_personOf_122 : decode cX10_personOf 122 = .ok (.getfield 111, 3) := by decide +kernel
theorem dX10_personOf_125 : decode cX10_personOf 125 = .ok (.invokestatic 114, 3) := by decide +kernel
theorem dX10_personOf_128 : decode cX10_personOf 128 = .ok (.invokevirtual 117, 3) := by decide +kernel
theorem dX10_personOf_131 : decode cX10_personOf 131 = .ok (.ifCond .eq 7, 3) := by decide +kernel
theorem dX10_personOf_134 : decode cX10_personOf 134 = .ok (.iconst 1, 1) := by decide +kernel
theorem dX10_personOf_135 : decode cX10_personOf 135 = .ok (.goto 4, 3) := by decide +kernel
theorem dX10_personOf_138 : decode cX10_personOf 138 = .ok (.iconst 0, 1) := by decide +kernel
theorem dX10_personOf_139 : decode cX10_personOf 139 = .ok (.ireturn, 1) := by decide +kernel
theorem dX10_personOf_140 : decode cX10_personOf 140 = .ok (.aload_n 3, 1) := by decide +kernel
theorem dX10_personOf_141 : decode cX10_personOf 141 = .ok (.getfield 122, 3) := by decide +kernel
theorem dX10_personOf_144 : decode cX10_personOf 144 = .ok (.ireturn, 1) := by decide +kernel
theorem dX10_personOf_145 : decode cX10_personOf 145 = .ok (.iconst (-1), 1) := by decide +kernel
theorem dX10_personOf_146 : decode cX10_personOf 146 = .ok (.ireturn, 1) := by decide +kernel
theorem dX10_alert_0 : decode cX10_alert 0 = .ok (.aload_n 0, 1) := by decide +kernel
theorem dX10_alert_1 : decode cX10_alert 1 = .ok (.getfield 22, 3) := by decide +kernel
theorem dX10_alert_4 : decode cX10_alert 4 = .ok (.aload_n 0, 1) := by decide +kernel
theorem dX10_alert_5 : decode cX10_alert 5 = .ok (.getfield 10, 3) := by decide +kernel
theorem dX10_alert_8 : decode cX10_alert 8 = .ok (.invokevirtual 33, 3) := by decide +kernel
theorem dX10_alert_11 : decode cX10_alert 11 = .ok (.aload_n 0, 1) := by decide +kernel
theorem dX10_alert_12 : decode cX10_alert 12 = .ok (.aload_n 0, 1) := by decide +kernel
theorem dX10_alert_13 : decode cX10_alert 13 = .ok (.getfield 10, 3) := by decide +kernel
theorem dX10_alert_16 : decode cX10_alert 16 = .ok (.iload_n 1, 1) := by decide +kernel
theorem dX10_alert_17 : decode cX10_alert 17 = .ok (.iload_n 2, 1) := by decide +kernel
theorem dX10_alert_18 : decode cX10_alert 18 = .ok (.invokevirtual 125, 3) := by decide +kernel
theorem dX10_alert_21 : decode cX10_alert 21 = .ok (.invokevirtual 47, 3) := by decide +kernel
theorem dX10_alert_24 : decode cX10_alert 24 = .ok (.ireturn, 1) := by decide +kernel
theorem dX10_acknowledge_0 : decode cX10_acknowledge 0 = .ok (.aload_n 0, 1) := by decide +kernel
theorem dX10_acknowledge_1 : decode cX10_acknowledge 1 = .ok (.getfield 22, 3) := by decide +kernel
theorem dX10_acknowledge_4 : decode cX10_acknowledge 4 = .ok (.aload_n 0, 1) := by decide +kernel
theorem dX10_acknowledge_5 : decode cX10_acknowledge 5 = .ok (.getfield 10, 3) := by decide +kernel
theorem dX10_acknowledge_8 : decode cX10_acknowledge 8 = .ok (.invokevirtual 33, 3) := by decide +kernel
theorem dX10_acknowledge_11 : decode cX10_acknowledge 11 = .ok (.aload_n 0, 1) := by decide +kernel
theorem dX10_acknowledge_12 : decode cX10_acknowledge 12 = .ok (.aload_n 0, 1) := by decide +kernel
theorem dX10_acknowledge_13 : decode cX10_acknowledge 13 = .ok (.getfield 10, 3) := by decide +kernel
theorem dX10_acknowledge_16 : decode cX10_acknowledge 16 = .ok (.iload_n 1, 1) := by decide +kernel
theorem dX10_acknowledge_17 : decode cX10_acknowledge 17 = .ok (.invokevirtual 128, 3) := by decide +kernel
theorem dX10_acknowledge_20 : decode cX10_acknowledge 20 = .ok (.invokevirtual 47, 3) := by decide +kernel
theorem dX10_acknowledge_23 : decode cX10_acknowledge 23 = .ok (.ireturn, 1) := by decide +kernel
theorem dX10_resolve_0 : decode cX10_resolve 0 = .ok (.aload_n 0, 1) := by decide +kernel
theorem dX10_resolve_1 : decode cX10_resolve 1 = .ok (.getfield 22, 3) := by decide +kernel
theorem dX10_resolve_4 : decode cX10_resolve 4 = .ok (.aload_n 0, 1) := by decide +kernel
theorem dX10_resolve_5 : decode cX10_resolve 5 = .ok (.getfield 10, 3) := by decide +kernel
theorem dX10_resolve_8 : decode cX10_resolve 8 = .ok (.invokevirtual 33, 3) := by decide +kernel
theorem dX10_resolve_11 : decode cX10_resolve 11 = .ok (.aload_n 0, 1) := by decide +kernel
theorem dX10_resolve_12 : decode cX10_resolve 12 = .ok (.aload_n 0, 1) := by decide +kernel
theorem dX10_resolve_13 : decode cX10_resolve 13 = .ok (.getfield 10, 3) := by decide +kernel
theorem dX10_resolve_16 : decode cX10_resolve 16 = .ok (.iload_n 1, 1) := by decide +kernel
theorem dX10_resolve_17 : decode cX10_resolve 17 = .ok (.invokevirtual 131, 3) := by decide +kernel
theorem dX10_resolve_20 : decode cX10_resolve 20 = .ok (.invokevirtual 47, 3) := by decide +kernel
theorem dX10_resolve_23 : decode cX10_resolve 23 = .ok (.ireturn, 1) := by decide +kernel
theorem dX10_pass_0 : decode cX10_pass 0 = .ok (.aload_n 0, 1) := by decide +kernel
theorem dX10_pass_1 : decode cX10_pass 1 = .ok (.getfield 22, 3) := by decide +kernel
theorem dX10_pass_4 : decode cX10_pass 4 = .ok (.aload_n 0, 1) := by decide +kernel
theorem dX10_pass_5 : decode cX10_pass 5 = .ok (.getfield 10, 3) := by decide +kernel
theorem dX10_pass_8 : decode cX10_pass 8 = .ok (.invokevirtual 33, 3) := by decide +kernel
theorem dX10_pass_11 : decode cX10_pass 11 = .ok (.aload_n 0, 1) := by decide +kernel
theorem dX10_pass_12 : decode cX10_pass 12 = .ok (.aload_n 0, 1) := by decide +kernel
theorem dX10_pass_13 : decode cX10_pass 13 = .ok (.getfield 10, 3) := by decide +kernel
theorem dX10_pass_16 : decode cX10_pass 16 = .ok (.iload_n 1, 1) := by decide +kernel
theorem dX10_pass_17 : decode cX10_pass 17 = .ok (.invokevirtual 134, 3) := by decide +kernel
theorem dX10_pass_20 : decode cX10_pass 20 = .ok (.invokevirtual 47, 3) := by decide +kernel
theorem dX10_pass_23 : decode cX10_pass 23 = .ok (.ireturn, 1) := by decide +kernel
theorem dX10_set_0 : decode cX10_set 0 = .ok (.aload_n 0, 1) := by decide +kernel
theorem dX10_set_1 : decode cX10_set 1 = .ok (.getfield 22, 3) := by decide +kernel
theorem dX10_set_4 : decode cX10_set 4 = .ok (.aload_n 0, 1) := by decide +kernel
theorem dX10_set_5 : decode cX10_set 5 = .ok (.getfield 10, 3) := by decide +kernel
theorem dX10_set_8 : decode cX10_set 8 = .ok (.invokevirtual 33, 3) := by decide +kernel
theorem dX10_set_11 : decode cX10_set 11 = .ok (.aload_n 0, 1) := by decide +kernel
theorem dX10_set_12 : decode cX10_set 12 = .ok (.aload_n 0, 1) := by decide +kernel
theorem dX10_set_13 : decode cX10_set 13 = .ok (.getfield 10, 3) := by decide +kernel
theorem dX10_set_16 : decode cX10_set 16 = .ok (.iload_n 1, 1) := by decide +kernel
theorem dX10_set_17 : decode cX10_set 17 = .ok (.iload_n 2, 1) := by decide +kernel
theorem dX10_set_18 : decode cX10_set 18 = .ok (.invokevirtual 137, 3) := by decide +kernel
theorem dX10_set_21 : decode cX10_set 21 = .ok (.invokevirtual 47, 3) := by decide +kernel
theorem dX10_set_24 : decode cX10_set 24 = .ok (.ireturn, 1) := by decide +kernel
theorem dX10_incidentOf_0 : decode cX10_incidentOf 0 = .ok (.aload_n 0, 1) := by decide +kernel
theorem dX10_incidentOf_1 : decode cX10_incidentOf 1 = .ok (.getfield 10, 3) := by decide +kernel
theorem dX10_incidentOf_4 : decode cX10_incidentOf 4 = .ok (.iload_n 1, 1) := by decide +kernel
theorem dX10_incidentOf_5 : decode cX10_incidentOf 5 = .ok (.invokevirtual 140, 3) := by decide +kernel
theorem dX10_incidentOf_8 : decode cX10_incidentOf 8 = .ok (.ifCond .ne 5, 3) := by decide +kernel
theorem dX10_incidentOf_11 : decode cX10_incidentOf 11 = .ok (.iconst (-1), 1) := by decide +kernel
theorem dX10_incidentOf_12 : decode cX10_incidentOf 12 = .ok (.ireturn, 1) := by decide +kernel
theorem dX10_incidentOf_13 : decode cX10_incidentOf 13 = .ok (.aload_n 0, 1) := by decide +kernel
theorem dX10_incidentOf_14 : decode cX10_incidentOf 14 = .ok (.getfield 10, 3) := by decide +kernel
theorem dX10_incidentOf_17 : decode cX10_incidentOf 17 = .ok (.getfield 143, 3) := by decide +kernel
theorem dX10_incidentOf_20 : decode cX10_incidentOf 20 = .ok (.iload_n 1, 1) := by decide +kernel
theorem dX10_incidentOf_21 : decode cX10_incidentOf 21 = .ok (.aaload, 1) := by decide +kernel
theorem dX10_incidentOf_22 : decode cX10_incidentOf 22 = .ok (.astore_n 3, 1) := by decide +kernel
theorem dX10_incidentOf_23 : decode cX10_incidentOf 23 = .ok (.iload_n 2, 1) := by decide +kernel
theorem dX10_incidentOf_24 : decode cX10_incidentOf 24 = .ok (.tableswitch 158 0 11 #[64, 69, 74, 79, 97, 110, 115, 120, 125, 130, 148, 153], 64) := by decide +kernel
theorem dX10_incidentOf_88 : decode cX10_incidentOf 88 = .ok (.aload_n 3, 1) := by decide +kernel
theorem dX10_incidentOf_89 : decode cX10_incidentOf 89 = .ok (.getfield 147, 3) := by decide +kernel
theorem dX10_incidentOf_92 : decode cX10_incidentOf 92 = .ok (.ireturn, 1) := by decide +kernel
theorem dX10_incidentOf_93 : decode cX10_incidentOf 93 = .ok (.aload_n 3, 1) := by decide +kernel
theorem dX10_incidentOf_94 : decode cX10_incidentOf 94 = .ok (.getfield 152, 3) := by decide +kernel
theorem dX10_incidentOf_97 : decode cX10_incidentOf 97 = .ok (.ireturn, 1) := by decide +kernel
theorem dX10_incidentOf_98 : decode cX10_incidentOf 98 = .ok (.aload_n 3, 1) := by decide +kernel
theorem dX10_incidentOf_99 : decode cX10_incidentOf 99 = .ok (.getfield 155, 3) := by decide +kernel
theorem dX10_incidentOf_102 : decode cX10_incidentOf 102 = .ok (.ireturn, 1) := by decide +kernel
theorem dX10_incidentOf_103 : decode cX10_incidentOf 103 = .ok (.aload_n 3, 1) := by decide +kernel
theorem dX10_incidentOf_104 : decode cX10_incidentOf 104 = .ok (.getfield 158, 3) := by decide +kernel
theorem dX10_incidentOf_107 : decode cX10_incidentOf 107 = .ok (.iconst (-1), 1) := by decide +kernel
theorem dX10_incidentOf_108 : decode cX10_incidentOf 108 = .ok (.if_icmp .ne 8, 3) := by decide +kernel
theorem dX10_incidentOf_111 : decode cX10_incidentOf 111 = .ok (.bipush (-4), 2) := by decide +kernel
theorem dX10_incidentOf_113 : decode cX10_incidentOf 113 = .ok (.goto 7, 3) := by decide +kernel
theorem dX10_incidentOf_116 : decode cX10_incidentOf 116 = .ok (.aload_n 3, 1) := by decide +kernel
theorem dX10_incidentOf_117 : decode cX10_incidentOf 117 = .ok (.getfield 158, 3) := by decide +kernel
theorem dX10_incidentOf_120 : decode cX10_incidentOf 120 = .ok (.ireturn, 1) := by decide +kernel
theorem dX10_incidentOf_121 : decode cX10_incidentOf 121 = .ok (.aload_n 3, 1) := by decide +kernel
theorem dX10_incidentOf_122 : decode cX10_incidentOf 122 = .ok (.getfield 161, 3) := by decide +kernel
theorem dX10_incidentOf_125 : decode cX10_incidentOf 125 = .ok (.ifCond .eq 7, 3) := by decide +kernel
theorem dX10_incidentOf_128 : decode cX10_incidentOf 128 = .ok (.iconst 1, 1) := by decide +kernel
theorem dX10_incidentOf_129 : decode cX10_incidentOf 129 = .ok (.goto 4, 3) := by decide +kernel
theorem dX10_incidentOf_132 : decode cX10_incidentOf 132 = .ok (.iconst 0, 1) := by decide +kernel
theorem dX10_incidentOf_133 : decode cX10_incidentOf 133 = .ok (.ireturn, 1) := by decide +kernel
theorem dX10_incidentOf_134 : decode cX10_incidentOf 134 = .ok (.aload_n 3, 1) := by decide +kernel
theorem dX10_incidentOf_135 : decode cX10_incidentOf 135 = .ok (.getfield 165, 3) := by decide +kernel
theorem dX10_incidentOf_138 : decode cX10_incidentOf 138 = .ok (.ireturn, 1) := by decide +kernel
theorem dX10_incidentOf_139 : decode cX10_incidentOf 139 = .ok (.aload_n 3, 1) := by decide +kernel
theorem dX10_incidentOf_140 : decode cX10_incidentOf 140 = .ok (.getfield 168, 3) := by decide +kernel
theorem dX10_incidentOf_143 : decode cX10_incidentOf 143 = .ok (.ireturn, 1) := by decide +kernel
theorem dX10_incidentOf_144 : decode cX10_incidentOf 144 = .ok (.aload_n 3, 1) := by decide +kernel
theorem dX10_incidentOf_145 : decode cX10_incidentOf 145 = .ok (.getfield 171, 3) := by decide +kernel
theorem dX10_incidentOf_148 : decode cX10_incidentOf 148 = .ok (.ireturn, 1) := by decide +kernel
theorem dX10_incidentOf_149 : decode cX10_incidentOf 149 = .ok (.aload_n 3, 1) := by decide +kernel
theorem dX10_incidentOf_150 : decode cX10_incidentOf 150 = .ok (.getfield 174, 3) := by decide +kernel
theorem dX10_incidentOf_153 : decode cX10_incidentOf 153 = .ok (.ireturn, 1) := by decide +kernel
theorem dX10_incidentOf_154 : decode cX10_incidentOf 154 = .ok (.aload_n 3, 1) := by decide +kernel
theorem dX10_incidentOf_155 : decode cX10_incidentOf 155 = .ok (.getfield 177, 3) := by decide +kernel
theorem dX10_incidentOf_158 : decode cX10_incidentOf 158 = .ok (.iconst (-1), 1) := by decide +kernel
theorem dX10_incidentOf_159 : decode cX10_incidentOf 159 = .ok (.if_icmp .ne 8, 3) := by decide +kernel
theorem dX10_incidentOf_162 : decode cX10_incidentOf 162 = .ok (.bipush (-4), 2) := by decide +kernel
theorem dX10_incidentOf_164 : decode cX10_incidentOf 164 = .ok (.goto 7, 3) := by decide +kernel
theorem dX10_incidentOf_167 : decode cX10_incidentOf 167 = .ok (.aload_n 3, 1) := by decide +kernel
theorem dX10_incidentOf_168 : decode cX10_incidentOf 168 = .ok (.getfield 177, 3) := by decide +kernel
theorem dX10_incidentOf_171 : decode cX10_incidentOf 171 = .ok (.ireturn, 1) := by decide +kernel
theorem dX10_incidentOf_172 : decode cX10_incidentOf 172 = .ok (.aload_n 3, 1) := by decide +kernel
theorem dX10_incidentOf_173 : decode cX10_incidentOf 173 = .ok (.getfield 180, 3) := by decide +kernel
theorem dX10_incidentOf_176 : decode cX10_incidentOf 176 = .ok (.ireturn, 1) := by decide +kernel
theorem dX10_incidentOf_177 : decode cX10_incidentOf 177 = .ok (.aload_n 3, 1) := by decide +kernel
theorem dX10_incidentOf_178 : decode cX10_incidentOf 178 = .ok (.getfield 183, 3) := by decide +kernel
theorem dX10_incidentOf_181 : decode cX10_incidentOf 181 = .ok (.ireturn, 1) := by decide +kernel
theorem dX10_incidentOf_182 : decode cX10_incidentOf 182 = .ok (.iconst (-1), 1) := by decide +kernel
theorem dX10_incidentOf_183 : decode cX10_incidentOf 183 = .ok (.ireturn, 1) := by decide +kernel
theorem dX10_count_0 : decode cX10_count 0 = .ok (.iload_n 1, 1) := by decide +kernel
theorem dX10_count_1 : decode cX10_count 1 = .ok (.tableswitch 209 0 21 #[103, 114, 125, 133, 141, 151, 209, 209, 209, 209, 209, 209, 209, 159, 177, 185, 209, 209, 209, 209, 193, 201], 103) := by decide +kernel
theorem dX10_count_104 : decode cX10_count 104 = .ok (.aload_n 0, 1) := by decide +kernel
theorem dX10_count_105 : decode cX10_count 105 = .ok (.getfield 10, 3) := by decide +kernel
theorem dX10_count_108 : decode cX10_count 108 = .ok (.getfield 37, 3) := by decide +kernel
theorem dX10_count_111 : decode cX10_count 111 = .ok (.getfield 186, 3) := by decide +kernel
theorem dX10_count_114 : decode cX10_count 114 = .ok (.ireturn, 1) := by decide +kernel
theorem dX10_count_115 : decode cX10_count 115 = .ok (.aload_n 0, 1) := by decide +kernel
theorem dX10_count_116 : decode cX10_count 116 = .ok (.getfield 10, 3) := by decide +kernel
theorem dX10_count_119 : decode cX10_count 119 = .ok (.getfield 37, 3) := by decide +kernel
theorem dX10_count_122 : decode cX10_count 122 = .ok (.getfield 189, 3) := by decide +kernel
theorem dX10_count_125 : decode cX10_count 125 = .ok (.ireturn, 1) := by decide +kernel
theorem dX10_count_126 : decode cX10_count 126 = .ok (.aload_n 0, 1) := by decide +kernel
theorem dX10_count_127 : decode cX10_count 127 = .ok (.getfield 10, 3) := by decide +kernel
theorem dX10_count_130 : decode cX10_count 130 = .ok (.getfield 111, 3) := by decide +kernel
theorem dX10_count_133 : decode cX10_count 133 = .ok (.ireturn, 1) := by decide +kernel
theorem dX10_count_134 : decode cX10_count 134 = .ok (.aload_n 0, 1) := by decide +kernel
theorem dX10_count_135 : decode cX10_count 135 = .ok (.getfield 10, 3) := by decide +kernel
theorem dX10_count_138 : decode cX10_count 138 = .ok (.invokevirtual 192, 3) := by decide +kernel
theorem dX10_count_141 : decode cX10_count 141 = .ok (.ireturn, 1) := by decide +kernel
theorem dX10_count_142 : decode cX10_count 142 = .ok (.aload_n 0, 1) := by decide +kernel
theorem dX10_count_143 : decode cX10_count 143 = .ok (.getfield 10, 3) := by decide +kernel
theorem dX10_count_146 : decode cX10_count 146 = .ok (.iconst (-1), 1) := by decide +kernel
theorem dX10_count_147 : decode cX10_count 147 = .ok (.iconst 0, 1) := by decide +kernel
theorem dX10_count_148 : decode cX10_count 148 = .ok (.invokevirtual 97, 3) := by decide +kernel
theorem dX10_count_151 : decode cX10_count 151 = .ok (.ireturn, 1) := by decide +kernel
theorem dX10_count_152 : decode cX10_count 152 = .ok (.aload_n 0, 1) := by decide +kernel
theorem dX10_count_153 : decode cX10_count 153 = .ok (.getfield 10, 3) := by decide +kernel
theorem dX10_count_156 : decode cX10_count 156 = .ok (.invokevirtual 195, 3) := by decide +kernel
theorem dX10_count_159 : decode cX10_count 159 = .ok (.ireturn, 1) := by decide +kernel
theorem dX10_count_160 : decode cX10_count 160 = .ok (.aload_n 0, 1) := by decide +kernel
theorem dX10_count_161 : decode cX10_count 161 = .ok (.getfield 10, 3) := by decide +kernel
theorem dX10_count_164 : decode cX10_count 164 = .ok (.getfield 37, 3) := by decide +kernel
theorem dX10_count_167 : decode cX10_count 167 = .ok (.aload_n 0, 1) := by decide +kernel
theorem dX10_count_168 : decode cX10_count 168 = .ok (.getfield 10, 3) := by decide +kernel
theorem dX10_count_171 : decode cX10_count 171 = .ok (.getfield 111, 3) := by decide +kernel
theorem dX10_count_174 : decode cX10_count 174 = .ok (.invokevirtual 198, 3) := by decide +kernel
theorem dX10_count_177 : decode cX10_count 177 = .ok (.ireturn, 1) := by decide +kernel
theorem dX10_count_178 : decode cX10_count 178 = .ok (.aload_n 0, 1) := by decide +kernel
theorem dX10_count_179 : decode cX10_count 179 = .ok (.getfield 22, 3) := by decide +kernel
theorem dX10_count_182 : decode cX10_count 182 = .ok (.getfield 201, 3) := by decide +kernel
theorem dX10_count_185 : decode cX10_count 185 = .ok (.ireturn, 1) := by decide +kernel
theorem dX10_count_186 : decode cX10_count 186 = .ok (.aload_n 0, 1) := by decide +kernel
theorem dX10_count_187 : decode cX10_count 187 = .ok (.getfield 29, 3) := by decide +kernel
theorem dX10_count_190 : decode cX10_count 190 = .ok (.getfield 204, 3) := by decide +kernel
theorem dX10_count_193 : decode cX10_count 193 = .ok (.ireturn, 1) := by decide +kernel
theorem dX10_count_194 : decode cX10_count 194 = .ok (.aload_n 0, 1) := by decide +kernel
theorem dX10_count_195 : decode cX10_count 195 = .ok (.getfield 10, 3) := by decide +kernel
theorem dX10_count_198 : decode cX10_count 198 = .ok (.getfield 207, 3) := by decide +kernel
theorem dX10_count_201 : decode cX10_count 201 = .ok (.ireturn, 1) := by decide +kernel
theorem dX10_count_202 : decode cX10_count 202 = .ok (.aload_n 0, 1) := by decide +kernel
theorem dX10_count_203 : decode cX10_count 203 = .ok (.getfield 10, 3) := by decide +kernel
theorem dX10_count_206 : decode cX10_count 206 = .ok (.getfield 210, 3) := by decide +kernel
theorem dX10_count_209 : decode cX10_count 209 = .ok (.ireturn, 1) := by decide +kernel
theorem dX10_count_210 : decode cX10_count 210 = .ok (.aload_n 0, 1) := by decide +kernel
theorem dX10_count_211 : decode cX10_count 211 = .ok (.getfield 10, 3) := by decide +kernel
theorem dX10_count_214 : decode cX10_count 214 = .ok (.getfield 213, 3) := by decide +kernel
theorem dX10_count_217 : decode cX10_count 217 = .ok (.iload_n 1, 1) := by decide +kernel
theorem dX10_count_218 : decode cX10_count 218 = .ok (.invokevirtual 217, 3) := by decide +kernel
theorem dX10_count_221 : decode cX10_count 221 = .ok (.ireturn, 1) := by decide +kernel
theorem dX10_onCall_0 : decode cX10_onCall 0 = .ok (.iload_n 1, 1) := by decide +kernel
theorem dX10_onCall_1 : decode cX10_onCall 1 = .ok (.ifCond .lt 21, 3) := by decide +kernel
theorem dX10_onCall_4 : decode cX10_onCall 4 = .ok (.iload_n 1, 1) := by decide +kernel
theorem dX10_onCall_5 : decode cX10_onCall 5 = .ok (.sipush 30000, 3) := by decide +kernel
theorem dX10_onCall_8 : decode cX10_onCall 8 = .ok (.if_icmp .gt 14, 3) := by decide +kernel
theorem dX10_onCall_11 : decode cX10_onCall 11 = .ok (.iload_n 2, 1) := by decide +kernel
theorem dX10_onCall_12 : decode cX10_onCall 12 = .ok (.iconst (-1), 1) := by decide +kernel
theorem dX10_onCall_13 : decode cX10_onCall 13 = .ok (.if_icmp .lt 9, 3) := by decide +kernel
theorem dX10_onCall_16 : decode cX10_onCall 16 = .ok (.iload_n 2, 1) := by decide +kernel
theorem dX10_onCall_17 : decode cX10_onCall 17 = .ok (.bipush 9, 2) := by decide +kernel
theorem dX10_onCall_19 : decode cX10_onCall 19 = .ok (.if_icmp .le 5, 3) := by decide +kernel
theorem dX10_onCall_22 : decode cX10_onCall 22 = .ok (.iconst (-1), 1) := by decide +kernel
theorem dX10_onCall_23 : decode cX10_onCall 23 = .ok (.ireturn, 1) := by decide +kernel
theorem dX10_onCall_24 : decode cX10_onCall 24 = .ok (.aload_n 0, 1) := by decide +kernel
theorem dX10_onCall_25 : decode cX10_onCall 25 = .ok (.getfield 10, 3) := by decide +kernel
theorem dX10_onCall_28 : decode cX10_onCall 28 = .ok (.getfield 111, 3) := by decide +kernel
theorem dX10_onCall_31 : decode cX10_onCall 31 = .ok (.iload_n 1, 1) := by decide +kernel
theorem dX10_onCall_32 : decode cX10_onCall 32 = .ok (.iadd, 1) := by decide +kernel
theorem dX10_onCall_33 : decode cX10_onCall 33 = .ok (.istore_n 3, 1) := by decide +kernel
theorem dX10_onCall_34 : decode cX10_onCall 34 = .ok (.aload_n 0, 1) := by decide +kernel
theorem dX10_onCall_35 : decode cX10_onCall 35 = .ok (.getfield 10, 3) := by decide +kernel
theorem dX10_onCall_38 : decode cX10_onCall 38 = .ok (.getfield 37, 3) := by decide +kernel
theorem dX10_onCall_41 : decode cX10_onCall 41 = .ok (.iload_n 3, 1) := by decide +kernel
theorem dX10_onCall_42 : decode cX10_onCall 42 = .ok (.invokevirtual 222, 3) := by decide +kernel
theorem dX10_onCall_45 : decode cX10_onCall 45 = .ok (.istore 4, 2) := by decide +kernel
theorem dX10_onCall_47 : decode cX10_onCall 47 = .ok (.iload_n 2, 1) := by decide +kernel
theorem dX10_onCall_48 : decode cX10_onCall 48 = .ok (.iconst (-1), 1) := by decide +kernel
theorem dX10_onCall_49 : decode cX10_onCall 49 = .ok (.if_icmp .ne 8, 3) := by decide +kernel
theorem dX10_onCall_52 : decode cX10_onCall 52 = .ok (.iload 4, 2) := by decide +kernel
theorem dX10_onCall_54 : decode cX10_onCall 54 = .ok (.goto 17, 3) := by decide +kernel
theorem dX10_onCall_57 : decode cX10_onCall 57 = .ok (.aload_n 0, 1) := by decide +kernel
theorem dX10_onCall_58 : decode cX10_onCall 58 = .ok (.getfield 10, 3) := by decide +kernel
theorem dX10_onCall_61 : decode cX10_onCall 61 = .ok (.getfield 37, 3) := by decide +kernel
theorem dX10_onCall_64 : decode cX10_onCall 64 = .ok (.iload 4, 2) := by decide +kernel
theorem dX10_onCall_66 : decode cX10_onCall 66 = .ok (.iload_n 3, 1) := by decide +kernel
theorem dX10_onCall_67 : decode cX10_onCall 67 = .ok (.iload_n 2, 1) := by decide +kernel
theorem dX10_onCall_68 : decode cX10_onCall 68 = .ok (.invokevirtual 225, 3) := by decide +kernel
theorem dX10_onCall_71 : decode cX10_onCall 71 = .ok (.istore 5, 2) := by decide +kernel
theorem dX10_onCall_73 : decode cX10_onCall 73 = .ok (.iload 5, 2) := by decide +kernel
theorem dX10_onCall_75 : decode cX10_onCall 75 = .ok (.iconst (-1), 1) := by decide +kernel
theorem dX10_onCall_76 : decode cX10_onCall 76 = .ok (.if_icmp .ne 8, 3) := by decide +kernel
theorem dX10_onCall_79 : decode cX10_onCall 79 = .ok (.bipush (-4), 2) := by decide +kernel
theorem dX10_onCall_81 : decode cX10_onCall 81 = .ok (.goto 5, 3) := by decide +kernel
theorem dX10_onCall_84 : decode cX10_onCall 84 = .ok (.iload 5, 2) := by decide +kernel
theorem dX10_onCall_86 : decode cX10_onCall 86 = .ok (.ireturn, 1) := by decide +kernel
theorem dX10_uncovered_0 : decode cX10_uncovered 0 = .ok (.iconst 0, 1) := by decide +kernel
theorem dX10_uncovered_1 : decode cX10_uncovered 1 = .ok (.istore_n 1, 1) := by decide +kernel
theorem dX10_uncovered_2 : decode cX10_uncovered 2 = .ok (.iconst 0, 1) := by decide +kernel
theorem dX10_uncovered_3 : decode cX10_uncovered 3 = .ok (.istore_n 2, 1) := by decide +kernel
theorem dX10_uncovered_4 : decode cX10_uncovered 4 = .ok (.iload_n 2, 1) := by decide +kernel
theorem dX10_uncovered_5 : decode cX10_uncovered 5 = .ok (.bipush 24, 2) := by decide +kernel
theorem dX10_uncovered_7 : decode cX10_uncovered 7 = .ok (.if_icmp .ge 30, 3) := by decide +kernel
theorem dX10_uncovered_10 : decode cX10_uncovered 10 = .ok (.aload_n 0, 1) := by decide +kernel
theorem dX10_uncovered_11 : decode cX10_uncovered 11 = .ok (.getfield 10, 3) := by decide +kernel
theorem dX10_uncovered_14 : decode cX10_uncovered 14 = .ok (.getfield 37, 3) := by decide +kernel
theorem dX10_uncovered_17 : decode cX10_uncovered 17 = .ok (.iload_n 2, 1) := by decide +kernel
theorem dX10_uncovered_18 : decode cX10_uncovered 18 = .ok (.bipush 60, 2) := by decide +kernel
theorem dX10_uncovered_20 : decode cX10_uncovered 20 = .ok (.imul, 1) := by decide +kernel
theorem dX10_uncovered_21 : decode cX10_uncovered 21 = .ok (.invokevirtual 222, 3) := by decide +kernel
theorem dX10_uncovered_24 : decode cX10_uncovered 24 = .ok (.iconst (-1), 1) := by decide +kernel
theorem dX10_uncovered_25 : decode cX10_uncovered 25 = .ok (.if_icmp .ne 6, 3) := by decide +kernel
theorem dX10_uncovered_28 : decode cX10_uncovered 28 = .ok (.iinc 1 1, 3) := by decide +kernel
theorem dX10_uncovered_31 : decode cX10_uncovered 31 = .ok (.iinc 2 1, 3) := by decide +kernel
theorem dX10_uncovered_34 : decode cX10_uncovered 34 = .ok (.goto (-30), 3) := by decide +kernel
theorem dX10_uncovered_37 : decode cX10_uncovered 37 = .ok (.iload_n 1, 1) := by decide +kernel
theorem dX10_uncovered_38 : decode cX10_uncovered 38 = .ok (.ireturn, 1) := by decide +kernel
theorem dX10_later_0 : decode cX10_later 0 = .ok (.aload_n 0, 1) := by decide +kernel
theorem dX10_later_1 : decode cX10_later 1 = .ok (.getfield 10, 3) := by decide +kernel
theorem dX10_later_4 : decode cX10_later 4 = .ok (.iload_n 1, 1) := by decide +kernel
theorem dX10_later_5 : decode cX10_later 5 = .ok (.invokevirtual 140, 3) := by decide +kernel
theorem dX10_later_8 : decode cX10_later 8 = .ok (.ifCond .eq 24, 3) := by decide +kernel
theorem dX10_later_11 : decode cX10_later 11 = .ok (.iload_n 2, 1) := by decide +kernel
theorem dX10_later_12 : decode cX10_later 12 = .ok (.iconst 1, 1) := by decide +kernel
theorem dX10_later_13 : decode cX10_later 13 = .ok (.if_icmp .lt 19, 3) := by decide +kernel
theorem dX10_later_16 : decode cX10_later 16 = .ok (.iload_n 2, 1) := by decide +kernel
theorem dX10_later_17 : decode cX10_later 17 = .ok (.sipush 600, 3) := by decide +kernel
theorem dX10_later_20 : decode cX10_later 20 = .ok (.if_icmp .gt 12, 3) := by decide +kernel
theorem dX10_later_23 : decode cX10_later 23 = .ok (.iload_n 3, 1) := by decide +kernel
theorem dX10_later_24 : decode cX10_later 24 = .ok (.ifCond .lt 8, 3) := by decide +kernel
theorem dX10_later_27 : decode cX10_later 27 = .ok (.iload_n 3, 1) := by decide +kernel
theorem dX10_later_28 : decode cX10_later 28 = .ok (.iconst 2, 1) := by decide +kernel
theorem dX10_later_29 : decode cX10_later 29 = .ok (.if_icmp .le 5, 3) := by decide +kernel
theorem dX10_later_32 : decode cX10_later 32 = .ok (.iconst (-1), 1) := by decide +kernel
theorem dX10_later_33 : decode cX10_later 33 = .ok (.ireturn, 1) := by decide +kernel
theorem dX10_later_34 : decode cX10_later 34 = .ok (.aload_n 0, 1) := by decide +kernel
theorem dX10_later_35 : decode cX10_later 35 = .ok (.getfield 16, 3) := by decide +kernel
theorem dX10_later_38 : decode cX10_later 38 = .ok (.aload_n 0, 1) := by decide +kernel
theorem dX10_later_39 : decode cX10_later 39 = .ok (.getfield 10, 3) := by decide +kernel
theorem dX10_later_42 : decode cX10_later 42 = .ok (.invokevirtual 228, 3) := by decide +kernel
theorem dX10_later_45 : decode cX10_later 45 = .ok (.aload_n 0, 1) := by decide +kernel
theorem dX10_later_46 : decode cX10_later 46 = .ok (.getfield 16, 3) := by decide +kernel
theorem dX10_later_49 : decode cX10_later 49 = .ok (.iload_n 1, 1) := by decide +kernel
theorem dX10_later_50 : decode cX10_later 50 = .ok (.iload_n 2, 1) := by decide +kernel
theorem dX10_later_51 : decode cX10_later 51 = .ok (.invokevirtual 231, 3) := by decide +kernel
theorem dX10_later_54 : decode cX10_later 54 = .ok (.aload_n 0, 1) := by decide +kernel
theorem dX10_later_55 : decode cX10_later 55 = .ok (.getfield 16, 3) := by decide +kernel
theorem dX10_later_58 : decode cX10_later 58 = .ok (.getfield 143, 3) := by decide +kernel
theorem dX10_later_61 : decode cX10_later 61 = .ok (.iload_n 1, 1) := by decide +kernel
theorem dX10_later_62 : decode cX10_later 62 = .ok (.aaload, 1) := by decide +kernel
theorem dX10_later_63 : decode cX10_later 63 = .ok (.astore 4, 2) := by decide +kernel
theorem dX10_later_65 : decode cX10_later 65 = .ok (.iload_n 3, 1) := by decide +kernel
theorem dX10_later_66 : decode cX10_later 66 = .ok (.iconst 1, 1) := by decide +kernel
theorem dX10_later_67 : decode cX10_later 67 = .ok (.if_icmp .ne 9, 3) := by decide +kernel
theorem dX10_later_70 : decode cX10_later 70 = .ok (.aload 4, 2) := by decide +kernel
theorem dX10_later_72 : decode cX10_later 72 = .ok (.getfield 155, 3) := by decide +kernel
theorem dX10_later_75 : decode cX10_later 75 = .ok (.ireturn, 1) := by decide +kernel
theorem dX10_later_76 : decode cX10_later 76 = .ok (.iload_n 3, 1) := by decide +kernel
theorem dX10_later_77 : decode cX10_later 77 = .ok (.iconst 2, 1) := by decide +kernel
theorem dX10_later_78 : decode cX10_later 78 = .ok (.if_icmp .ne 9, 3) := by decide +kernel
theorem dX10_later_81 : decode cX10_later 81 = .ok (.aload 4, 2) := by decide +kernel
theorem dX10_later_83 : decode cX10_later 83 = .ok (.getfield 174, 3) := by decide +kernel
theorem dX10_later_86 : decode cX10_later 86 = .ok (.ireturn, 1) := by decide +kernel
theorem dX10_later_87 : decode cX10_later 87 = .ok (.aload 4, 2) := by decide +kernel
theorem dX10_later_89 : decode cX10_later 89 = .ok (.getfield 158, 3) := by decide +kernel
theorem dX10_later_92 : decode cX10_later 92 = .ok (.iconst (-1), 1) := by decide +kernel
theorem dX10_later_93 : decode cX10_later 93 = .ok (.if_icmp .ne 8, 3) := by decide +kernel
theorem dX10_later_96 : decode cX10_later 96 = .ok (.bipush (-4), 2) := by decide +kernel
theorem dX10_later_98 : decode cX10_later 98 = .ok (.goto 8, 3) := by decide +kernel
theorem dX10_later_101 : decode cX10_later 101 = .ok (.aload 4, 2) := by decide +kernel
theorem dX10_later_103 : decode cX10_later 103 = .ok (.getfield 158, 3) := by decide +kernel
theorem dX10_later_106 : decode cX10_later 106 = .ok (.ireturn, 1) := by decide +kernel
theorem dX10_acknowledgeBits_0 : decode cX10_acknowledgeBits 0 = .ok (.aload_n 0, 1) := by decide +kernel
theorem dX10_acknowledgeBits_1 : decode cX10_acknowledgeBits 1 = .ok (.getfield 10, 3) := by decide +kernel
theorem dX10_acknowledgeBits_4 : decode cX10_acknowledgeBits 4 = .ok (.getfield 213, 3) := by decide +kernel
theorem dX10_acknowledgeBits_7 : decode cX10_acknowledgeBits 7 = .ok (.astore_n 1, 1) := by decide +kernel
theorem dX10_acknowledgeBits_8 : decode cX10_acknowledgeBits 8 = .ok (.aload_n 1, 1) := by decide +kernel
theorem dX10_acknowledgeBits_9 : decode cX10_acknowledgeBits 9 = .ok (.getfield 235, 3) := by decide +kernel
theorem dX10_acknowledgeBits_12 : decode cX10_acknowledgeBits 12 = .ok (.ifCond .gt 6, 3) := by decide +kernel
theorem dX10_acknowledgeBits_15 : decode cX10_acknowledgeBits 15 = .ok (.bipush (-4), 2) := by decide +kernel
theorem dX10_acknowledgeBits_17 : decode cX10_acknowledgeBits 17 = .ok (.ireturn, 1) := by decide +kernel
theorem dX10_acknowledgeBits_18 : decode cX10_acknowledgeBits 18 = .ok (.aload_n 1, 1) := by decide +kernel
theorem dX10_acknowledgeBits_19 : decode cX10_acknowledgeBits 19 = .ok (.getfield 238, 3) := by decide +kernel
theorem dX10_acknowledgeBits_22 : decode cX10_acknowledgeBits 22 = .ok (.i2f, 1) := by decide +kernel
theorem dX10_acknowledgeBits_23 : decode cX10_acknowledgeBits 23 = .ok (.aload_n 1, 1) := by decide +kernel
theorem dX10_acknowledgeBits_24 : decode cX10_acknowledgeBits 24 = .ok (.getfield 235, 3) := by decide +kernel
theorem dX10_acknowledgeBits_27 : decode cX10_acknowledgeBits 27 = .ok (.i2f, 1) := by decide +kernel
theorem dX10_acknowledgeBits_28 : decode cX10_acknowledgeBits 28 = .ok (.fdiv, 1) := by decide +kernel
theorem dX10_acknowledgeBits_29 : decode cX10_acknowledgeBits 29 = .ok (.invokestatic 241, 3) := by decide +kernel
theorem dX10_acknowledgeBits_32 : decode cX10_acknowledgeBits 32 = .ok (.ireturn, 1) := by decide +kernel
theorem dX10_unownedBits_0 : decode cX10_unownedBits 0 = .ok (.aload_n 0, 1) := by decide +kernel
theorem dX10_unownedBits_1 : decode cX10_unownedBits 1 = .ok (.getfield 10, 3) := by decide +kernel
theorem dX10_unownedBits_4 : decode cX10_unownedBits 4 = .ok (.getfield 213, 3) := by decide +kernel
theorem dX10_unownedBits_7 : decode cX10_unownedBits 7 = .ok (.astore_n 1, 1) := by decide +kernel
theorem dX10_unownedBits_8 : decode cX10_unownedBits 8 = .ok (.aload_n 1, 1) := by decide +kernel
theorem dX10_unownedBits_9 : decode cX10_unownedBits 9 = .ok (.getfield 245, 3) := by decide +kernel
theorem dX10_unownedBits_12 : decode cX10_unownedBits 12 = .ok (.ifCond .gt 6, 3) := by decide +kernel
theorem dX10_unownedBits_15 : decode cX10_unownedBits 15 = .ok (.bipush (-4), 2) := by decide +kernel
theorem dX10_unownedBits_17 : decode cX10_unownedBits 17 = .ok (.ireturn, 1) := by decide +kernel
theorem dX10_unownedBits_18 : decode cX10_unownedBits 18 = .ok (.aload_n 1, 1) := by decide +kernel
theorem dX10_unownedBits_19 : decode cX10_unownedBits 19 = .ok (.getfield 248, 3) := by decide +kernel
theorem dX10_unownedBits_22 : decode cX10_unownedBits 22 = .ok (.i2d, 1) := by decide +kernel
theorem dX10_unownedBits_23 : decode cX10_unownedBits 23 = .ok (.aload_n 1, 1) := by decide +kernel
theorem dX10_unownedBits_24 : decode cX10_unownedBits 24 = .ok (.getfield 245, 3) := by decide +kernel
theorem dX10_unownedBits_27 : decode cX10_unownedBits 27 = .ok (.i2d, 1) := by decide +kernel
theorem dX10_unownedBits_28 : decode cX10_unownedBits 28 = .ok (.ddiv, 1) := by decide +kernel
theorem dX10_unownedBits_29 : decode cX10_unownedBits 29 = .ok (.d2f, 1) := by decide +kernel
theorem dX10_unownedBits_30 : decode cX10_unownedBits 30 = .ok (.invokestatic 241, 3) := by decide +kernel
theorem dX10_unownedBits_33 : decode cX10_unownedBits 33 = .ok (.ireturn, 1) := by decide +kernel
theorem dX10_undo_0 : decode cX10_undo 0 = .ok (.aload_n 0, 1) := by decide +kernel
theorem dX10_undo_1 : decode cX10_undo 1 = .ok (.getfield 22, 3) := by decide +kernel
theorem dX10_undo_4 : decode cX10_undo 4 = .ok (.getfield 201, 3) := by decide +kernel
theorem dX10_undo_7 : decode cX10_undo 7 = .ok (.ifCond .gt 6, 3) := by decide +kernel
theorem dX10_undo_10 : decode cX10_undo 10 = .ok (.bipush (-2), 2) := by decide +kernel
theorem dX10_undo_12 : decode cX10_undo 12 = .ok (.ireturn, 1) := by decide +kernel
theorem dX10_undo_13 : decode cX10_undo 13 = .ok (.aload_n 0, 1) := by decide +kernel
theorem dX10_undo_14 : decode cX10_undo 14 = .ok (.getfield 22, 3) := by decide +kernel
theorem dX10_undo_17 : decode cX10_undo 17 = .ok (.aload_n 0, 1) := by decide +kernel
theorem dX10_undo_18 : decode cX10_undo 18 = .ok (.getfield 10, 3) := by decide +kernel
theorem dX10_undo_21 : decode cX10_undo 21 = .ok (.invokevirtual 249, 3) := by decide +kernel
theorem dX10_undo_24 : decode cX10_undo 24 = .ok (.aload_n 0, 1) := by decide +kernel
theorem dX10_undo_25 : decode cX10_undo 25 = .ok (.getfield 22, 3) := by decide +kernel
theorem dX10_undo_28 : decode cX10_undo 28 = .ok (.getfield 201, 3) := by decide +kernel
theorem dX10_undo_31 : decode cX10_undo 31 = .ok (.ireturn, 1) := by decide +kernel
theorem dX10_type_0 : decode cX10_type 0 = .ok (.iload_n 1, 1) := by decide +kernel
theorem dX10_type_1 : decode cX10_type 1 = .ok (.bipush 32, 2) := by decide +kernel
theorem dX10_type_3 : decode cX10_type 3 = .ok (.if_icmp .lt 9, 3) := by decide +kernel
theorem dX10_type_6 : decode cX10_type 6 = .ok (.iload_n 1, 1) := by decide +kernel
theorem dX10_type_7 : decode cX10_type 7 = .ok (.bipush 126, 2) := by decide +kernel
theorem dX10_type_9 : decode cX10_type 9 = .ok (.if_icmp .le 5, 3) := by decide +kernel
theorem dX10_type_12 : decode cX10_type 12 = .ok (.iconst (-1), 1) := by decide +kernel
theorem dX10_type_13 : decode cX10_type 13 = .ok (.ireturn, 1) := by decide +kernel
theorem dX10_type_14 : decode cX10_type 14 = .ok (.aload_n 0, 1) := by decide +kernel
theorem dX10_type_15 : decode cX10_type 15 = .ok (.getfield 29, 3) := by decide +kernel
theorem dX10_type_18 : decode cX10_type 18 = .ok (.iload_n 1, 1) := by decide +kernel
theorem dX10_type_19 : decode cX10_type 19 = .ok (.i2c, 1) := by decide +kernel
theorem dX10_type_20 : decode cX10_type 20 = .ok (.invokevirtual 252, 3) := by decide +kernel
theorem dX10_type_23 : decode cX10_type 23 = .ok (.ireturn, 1) := by decide +kernel
theorem dX10_clearText_0 : decode cX10_clearText 0 = .ok (.aload_n 0, 1) := by decide +kernel
theorem dX10_clearText_1 : decode cX10_clearText 1 = .ok (.getfield 29, 3) := by decide +kernel
theorem dX10_clearText_4 : decode cX10_clearText 4 = .ok (.getfield 204, 3) := by decide +kernel
theorem dX10_clearText_7 : decode cX10_clearText 7 = .ok (.istore_n 1, 1) := by decide +kernel
theorem dX10_clearText_8 : decode cX10_clearText 8 = .ok (.aload_n 0, 1) := by decide +kernel
theorem dX10_clearText_9 : decode cX10_clearText 9 = .ok (.getfield 29, 3) := by decide +kernel
theorem dX10_clearText_12 : decode cX10_clearText 12 = .ok (.iconst 0, 1) := by decide +kernel
theorem dX10_clearText_13 : decode cX10_clearText 13 = .ok (.putfield 204, 3) := by decide +kernel
theorem dX10_clearText_16 : decode cX10_clearText 16 = .ok (.iload_n 1, 1) := by decide +kernel
theorem dX10_clearText_17 : decode cX10_clearText 17 = .ok (.ireturn, 1) := by decide +kernel
theorem dX10_fault_0 : decode cX10_fault 0 = .ok (.iload_n 1, 1) := by decide +kernel
theorem dX10_fault_1 : decode cX10_fault 1 = .ok (.ifCond .lt 8, 3) := by decide +kernel
theorem dX10_fault_4 : decode cX10_fault 4 = .ok (.iload_n 1, 1) := by decide +kernel
theorem dX10_fault_5 : decode cX10_fault 5 = .ok (.iconst 1, 1) := by decide +kernel
theorem dX10_fault_6 : decode cX10_fault 6 = .ok (.if_icmp .le 5, 3) := by decide +kernel
theorem dX10_fault_9 : decode cX10_fault 9 = .ok (.iconst (-1), 1) := by decide +kernel
theorem dX10_fault_10 : decode cX10_fault 10 = .ok (.ireturn, 1) := by decide +kernel
theorem dX10_fault_11 : decode cX10_fault 11 = .ok (.aload_n 0, 1) := by decide +kernel
theorem dX10_fault_12 : decode cX10_fault 12 = .ok (.getfield 16, 3) := by decide +kernel
theorem dX10_fault_15 : decode cX10_fault 15 = .ok (.aload_n 0, 1) := by decide +kernel
theorem dX10_fault_16 : decode cX10_fault 16 = .ok (.getfield 10, 3) := by decide +kernel
theorem dX10_fault_19 : decode cX10_fault 19 = .ok (.invokevirtual 228, 3) := by decide +kernel
theorem dX10_fault_22 : decode cX10_fault 22 = .ok (.aload_n 0, 1) := by decide +kernel
theorem dX10_fault_23 : decode cX10_fault 23 = .ok (.getfield 29, 3) := by decide +kernel
theorem dX10_fault_26 : decode cX10_fault 26 = .ok (.aload_n 0, 1) := by decide +kernel
theorem dX10_fault_27 : decode cX10_fault 27 = .ok (.getfield 16, 3) := by decide +kernel
theorem dX10_fault_30 : decode cX10_fault 30 = .ok (.invokevirtual 256, 3) := by decide +kernel
theorem dX10_fault_33 : decode cX10_fault 33 = .ok (.aload_n 0, 1) := by decide +kernel
theorem dX10_fault_34 : decode cX10_fault 34 = .ok (.getfield 29, 3) := by decide +kernel
theorem dX10_fault_37 : decode cX10_fault 37 = .ok (.getfield 259, 3) := by decide +kernel
theorem dX10_fault_40 : decode cX10_fault 40 = .ok (.iconst (-1), 1) := by decide +kernel
theorem dX10_fault_41 : decode cX10_fault 41 = .ok (.if_icmp .ne 6, 3) := by decide +kernel
theorem dX10_fault_44 : decode cX10_fault 44 = .ok (.bipush (-4), 2) := by decide +kernel
theorem dX10_fault_46 : decode cX10_fault 46 = .ok (.ireturn, 1) := by decide +kernel
theorem dX10_fault_47 : decode cX10_fault 47 = .ok (.iload_n 1, 1) := by decide +kernel
theorem dX10_fault_48 : decode cX10_fault 48 = .ok (.ifCond .ne 13, 3) := by decide +kernel
theorem dX10_fault_51 : decode cX10_fault 51 = .ok (.aload_n 0, 1) := by decide +kernel
theorem dX10_fault_52 : decode cX10_fault 52 = .ok (.getfield 29, 3) := by decide +kernel
theorem dX10_fault_55 : decode cX10_fault 55 = .ok (.getfield 262, 3) := by decide +kernel
theorem dX10_fault_58 : decode cX10_fault 58 = .ok (.goto 10, 3) := by decide +kernel
theorem dX10_fault_61 : decode cX10_fault 61 = .ok (.aload_n 0, 1) := by decide +kernel
theorem dX10_fault_62 : decode cX10_fault 62 = .ok (.getfield 29, 3) := by decide +kernel
theorem dX10_fault_65 : decode cX10_fault 65 = .ok (.getfield 259, 3) := by decide +kernel
theorem dX10_fault_68 : decode cX10_fault 68 = .ok (.ireturn, 1) := by decide +kernel
theorem dX10_play_0 : decode cX10_play 0 = .ok (.aload_n 0, 1) := by decide +kernel
theorem dX10_play_1 : decode cX10_play 1 = .ok (.getfield 16, 3) := by decide +kernel
theorem dX10_play_4 : decode cX10_play 4 = .ok (.aload_n 0, 1) := by decide +kernel
theorem dX10_play_5 : decode cX10_play 5 = .ok (.getfield 10, 3) := by decide +kernel
theorem dX10_play_8 : decode cX10_play 8 = .ok (.invokevirtual 228, 3) := by decide +kernel
theorem dX10_play_11 : decode cX10_play 11 = .ok (.aload_n 0, 1) := by decide +kernel
theorem dX10_play_12 : decode cX10_play 12 = .ok (.getfield 29, 3) := by decide +kernel
theorem dX10_play_15 : decode cX10_play 15 = .ok (.aload_n 0, 1) := by decide +kernel
theorem dX10_play_16 : decode cX10_play 16 = .ok (.getfield 16, 3) := by decide +kernel
theorem dX10_play_19 : decode cX10_play 19 = .ok (.invokevirtual 256, 3) := by decide +kernel
theorem dX10_play_22 : decode cX10_play 22 = .ok (.aload_n 0, 1) := by decide +kernel
theorem dX10_play_23 : decode cX10_play 23 = .ok (.getfield 29, 3) := by decide +kernel
theorem dX10_play_26 : decode cX10_play 26 = .ok (.getfield 259, 3) := by decide +kernel
theorem dX10_play_29 : decode cX10_play 29 = .ok (.iconst (-1), 1) := by decide +kernel
theorem dX10_play_30 : decode cX10_play 30 = .ok (.if_icmp .eq 6, 3) := by decide +kernel
theorem dX10_play_33 : decode cX10_play 33 = .ok (.bipush (-2), 2) := by decide +kernel
theorem dX10_play_35 : decode cX10_play 35 = .ok (.ireturn, 1) := by decide +kernel
theorem dX10_play_36 : decode cX10_play 36 = .ok (.aload_n 0, 1) := by decide +kernel
theorem dX10_play_37 : decode cX10_play 37 = .ok (.getfield 22, 3) := by decide +kernel
theorem dX10_play_40 : decode cX10_play 40 = .ok (.aload_n 0, 1) := by decide +kernel
theorem dX10_play_41 : decode cX10_play 41 = .ok (.getfield 10, 3) := by decide +kernel
theorem dX10_play_44 : decode cX10_play 44 = .ok (.invokevirtual 33, 3) := by decide +kernel
theorem dX10_play_47 : decode cX10_play 47 = .ok (.aload_n 0, 1) := by decide +kernel
theorem dX10_play_48 : decode cX10_play 48 = .ok (.getfield 10, 3) := by decide +kernel
theorem dX10_play_51 : decode cX10_play 51 = .ok (.aload_n 0, 1) := by decide +kernel
theorem dX10_play_52 : decode cX10_play 52 = .ok (.getfield 16, 3) := by decide +kernel
theorem dX10_play_55 : decode cX10_play 55 = .ok (.invokevirtual 228, 3) := by decide +kernel
theorem dX10_play_58 : decode cX10_play 58 = .ok (.aload_n 0, 1) := by decide +kernel
theorem dX10_play_59 : decode cX10_play 59 = .ok (.aload_n 0, 1) := by decide +kernel
theorem dX10_play_60 : decode cX10_play 60 = .ok (.getfield 29, 3) := by decide +kernel
theorem dX10_play_63 : decode cX10_play 63 = .ok (.getfield 265, 3) := by decide +kernel
theorem dX10_play_66 : decode cX10_play 66 = .ok (.invokevirtual 47, 3) := by decide +kernel
theorem dX10_play_69 : decode cX10_play 69 = .ok (.ireturn, 1) := by decide +kernel
theorem dX10_settled_0 : decode cX10_settled 0 = .ok (.iload_n 1, 1) := by decide +kernel
theorem dX10_settled_1 : decode cX10_settled 1 = .ok (.ifCond .lt 10, 3) := by decide +kernel
theorem dX10_settled_4 : decode cX10_settled 4 = .ok (.aload_n 0, 1) := by decide +kernel
theorem dX10_settled_5 : decode cX10_settled 5 = .ok (.getfield 22, 3) := by decide +kernel
theorem dX10_settled_8 : decode cX10_settled 8 = .ok (.invokevirtual 268, 3) := by decide +kernel
theorem dX10_settled_11 : decode cX10_settled 11 = .ok (.iload_n 1, 1) := by decide +kernel
theorem dX10_settled_12 : decode cX10_settled 12 = .ok (.ireturn, 1) := by decide +kernel
theorem dX10_hourOfDay_0 : decode cX10_hourOfDay 0 = .ok (.iload_n 0, 1) := by decide +kernel
theorem dX10_hourOfDay_1 : decode cX10_hourOfDay 1 = .ok (.bipush 60, 2) := by decide +kernel
theorem dX10_hourOfDay_3 : decode cX10_hourOfDay 3 = .ok (.idiv, 1) := by decide +kernel
theorem dX10_hourOfDay_4 : decode cX10_hourOfDay 4 = .ok (.bipush 24, 2) := by decide +kernel
theorem dX10_hourOfDay_6 : decode cX10_hourOfDay 6 = .ok (.irem, 1) := by decide +kernel
theorem dX10_hourOfDay_7 : decode cX10_hourOfDay 7 = .ok (.ireturn, 1) := by decide +kernel
theorem dX10_bitsOf_0 : decode cX10_bitsOf 0 = .ok (.fload_n 0, 1) := by decide +kernel
theorem dX10_bitsOf_1 : decode cX10_bitsOf 1 = .ok (.fconst 0, 1) := by decide +kernel
theorem dX10_bitsOf_2 : decode cX10_bitsOf 2 = .ok (.fcmp .l, 1) := by decide +kernel
theorem dX10_bitsOf_3 : decode cX10_bitsOf 3 = .ok (.ifCond .gt 5, 3) := by decide +kernel
theorem dX10_bitsOf_6 : decode cX10_bitsOf 6 = .ok (.iconst 0, 1) := by decide +kernel
theorem dX10_bitsOf_7 : decode cX10_bitsOf 7 = .ok (.ireturn, 1) := by decide +kernel
theorem dX10_bitsOf_8 : decode cX10_bitsOf 8 = .ok (.fload_n 0, 1) := by decide +kernel
theorem dX10_bitsOf_9 : decode cX10_bitsOf 9 = .ok (.fstore_n 1, 1) := by decide +kernel
theorem dX10_bitsOf_10 : decode cX10_bitsOf 10 = .ok (.bipush 127, 2) := by decide +kernel
theorem dX10_bitsOf_12 : decode cX10_bitsOf 12 = .ok (.istore_n 2, 1) := by decide +kernel
theorem dX10_bitsOf_13 : decode cX10_bitsOf 13 = .ok (.fload_n 1, 1) := by decide +kernel
theorem dX10_bitsOf_14 : decode cX10_bitsOf 14 = .ok (.fconst 2, 1) := by decide +kernel
theorem dX10_bitsOf_15 : decode cX10_bitsOf 15 = .ok (.fcmp .l, 1) := by decide +kernel
theorem dX10_bitsOf_16 : decode cX10_bitsOf 16 = .ok (.ifCond .lt 22, 3) := by decide +kernel
theorem dX10_bitsOf_19 : decode cX10_bitsOf 19 = .ok (.iload_n 2, 1) := by decide +kernel
theorem dX10_bitsOf_20 : decode cX10_bitsOf 20 = .ok (.sipush 254, 3) := by decide +kernel
theorem dX10_bitsOf_23 : decode cX10_bitsOf 23 = .ok (.if_icmp .ge 15, 3) := by decide +kernel
theorem dX10_bitsOf_26 : decode cX10_bitsOf 26 = .ok (.fload_n 1, 1) := by decide +kernel
theorem dX10_bitsOf_27 : decode cX10_bitsOf 27 = .ok (.ldc_w 271, 3) := by decide +kernel
theorem dX10_bitsOf_30 : decode cX10_bitsOf 30 = .ok (.fmul, 1) := by decide +kernel
theorem dX10_bitsOf_31 : decode cX10_bitsOf 31 = .ok (.fstore_n 1, 1) := by decide +kernel
theorem dX10_bitsOf_32 : decode cX10_bitsOf 32 = .ok (.iinc 2 1, 3) := by decide +kernel
theorem dX10_bitsOf_35 : decode cX10_bitsOf 35 = .ok (.goto (-22), 3) := by decide +kernel
theorem dX10_bitsOf_38 : decode cX10_bitsOf 38 = .ok (.fload_n 1, 1) := by decide +kernel
theorem dX10_bitsOf_39 : decode cX10_bitsOf 39 = .ok (.fconst 1, 1) := by decide +kernel
theorem dX10_bitsOf_40 : decode cX10_bitsOf 40 = .ok (.fcmp .g, 1) := by decide +kernel
theorem dX10_bitsOf_41 : decode cX10_bitsOf 41 = .ok (.ifCond .ge 18, 3) := by decide +kernel
theorem dX10_bitsOf_44 : decode cX10_bitsOf 44 = .ok (.iload_n 2, 1) := by decide +kernel
theorem dX10_bitsOf_45 : decode cX10_bitsOf 45 = .ok (.iconst 1, 1) := by decide +kernel
theorem dX10_bitsOf_46 : decode cX10_bitsOf 46 = .ok (.if_icmp .le 13, 3) := by decide +kernel
theorem dX10_bitsOf_49 : decode cX10_bitsOf 49 = .ok (.fload_n 1, 1) := by decide +kernel
theorem dX10_bitsOf_50 : decode cX10_bitsOf 50 = .ok (.fconst 2, 1) := by decide +kernel
theorem dX10_bitsOf_51 : decode cX10_bitsOf 51 = .ok (.fmul, 1) := by decide +kernel
theorem dX10_bitsOf_52 : decode cX10_bitsOf 52 = .ok (.fstore_n 1, 1) := by decide +kernel
theorem dX10_bitsOf_53 : decode cX10_bitsOf 53 = .ok (.iinc 2 (-1), 3) := by decide +kernel
theorem dX10_bitsOf_56 : decode cX10_bitsOf 56 = .ok (.goto (-18), 3) := by decide +kernel
theorem dX10_bitsOf_59 : decode cX10_bitsOf 59 = .ok (.iload_n 2, 1) := by decide +kernel
theorem dX10_bitsOf_60 : decode cX10_bitsOf 60 = .ok (.bipush 23, 2) := by decide +kernel
theorem dX10_bitsOf_62 : decode cX10_bitsOf 62 = .ok (.ishl, 1) := by decide +kernel
theorem dX10_bitsOf_63 : decode cX10_bitsOf 63 = .ok (.fload_n 1, 1) := by decide +kernel
theorem dX10_bitsOf_64 : decode cX10_bitsOf 64 = .ok (.fconst 1, 1) := by decide +kernel
theorem dX10_bitsOf_65 : decode cX10_bitsOf 65 = .ok (.fsub, 1) := by decide +kernel
theorem dX10_bitsOf_66 : decode cX10_bitsOf 66 = .ok (.ldc_w 272, 3) := by decide +kernel
theorem dX10_bitsOf_69 : decode cX10_bitsOf 69 = .ok (.fmul, 1) := by decide +kernel
theorem dX10_bitsOf_70 : decode cX10_bitsOf 70 = .ok (.f2i, 1) := by decide +kernel
theorem dX10_bitsOf_71 : decode cX10_bitsOf 71 = .ok (.iadd, 1) := by decide +kernel
theorem dX10_bitsOf_72 : decode cX10_bitsOf 72 = .ok (.ireturn, 1) := by decide +kernel
theorem dX11_init_0 : decode cX11_init 0 = .ok (.aload_n 0, 1) := by decide +kernel
theorem dX11_init_1 : decode cX11_init 1 = .ok (.invokespecial 1, 3) := by decide +kernel
theorem dX11_init_4 : decode cX11_init 4 = .ok (.aload_n 0, 1) := by decide +kernel
theorem dX11_init_5 : decode cX11_init 5 = .ok (.sipush 229, 3) := by decide +kernel
theorem dX11_init_8 : decode cX11_init 8 = .ok (.newarray .int, 2) := by decide +kernel
theorem dX11_init_10 : decode cX11_init 10 = .ok (.putfield 7, 3) := by decide +kernel
theorem dX11_init_13 : decode cX11_init 13 = .ok (.aload_n 0, 1) := by decide +kernel
theorem dX11_init_14 : decode cX11_init 14 = .ok (.sipush 229, 3) := by decide +kernel
theorem dX11_init_17 : decode cX11_init 17 = .ok (.newarray .int, 2) := by decide +kernel
theorem dX11_init_19 : decode cX11_init 19 = .ok (.putfield 13, 3) := by decide +kernel
theorem dX11_init_22 : decode cX11_init 22 = .ok (.aload_n 0, 1) := by decide +kernel
theorem dX11_init_23 : decode cX11_init 23 = .ok (.sipush 229, 3) := by decide +kernel
theorem dX11_init_26 : decode cX11_init 26 = .ok (.newarray .int, 2) := by decide +kernel
theorem dX11_init_28 : decode cX11_init 28 = .ok (.putfield 16, 3) := by decide +kernel
theorem dX11_init_31 : decode cX11_init 31 = .ok (.aload_n 0, 1) := by decide +kernel
theorem dX11_init_32 : decode cX11_init 32 = .ok (.sipush 916, 3) := by decide +kernel
theorem dX11_init_35 : decode cX11_init 35 = .ok (.newarray .int, 2) := by decide +kernel
theorem dX11_init_37 : decode cX11_init 37 = .ok (.putfield 19, 3) := by decide +kernel
theorem dX11_init_40 : decode cX11_init 40 = .ok (.aload_n 0, 1) := by decide +kernel
theorem dX11_init_41 : decode cX11_init 41 = .ok (.bipush 80, 2) := by decide +kernel
theorem dX11_init_43 : decode cX11_init 43 = .ok (.newarray .int, 2) := by decide +kernel
theorem dX11_init_45 : decode cX11_init 45 = .ok (.putfield 22, 3) := by decide +kernel
theorem dX11_init_48 : decode cX11_init 48 = .ok (.aload_n 0, 1) := by decide +kernel
theorem dX11_init_49 : decode cX11_init 49 = .ok (.iconst 3, 1) := by decide +kernel
theorem dX11_init_50 : decode cX11_init 50 = .ok (.newarray .int, 2) := by decide +kernel
theorem dX11_init_52 : decode cX11_init 52 = .ok (.putfield 25, 3) := by decide +kernel
theorem dX11_init_55 : decode cX11_init 55 = .ok (.aload_n 0, 1) := by decide +kernel
theorem dX11_init_56 : decode cX11_init 56 = .ok (.getfield 7, 3) := by decide +kernel
theorem dX11_init_59 : decode cX11_init 59 = .ok (.bipush 13, 2) := by decide +kernel
theorem dX11_init_61 : decode cX11_init 61 = .ok (.bipush 10, 2) := by decide +kernel
theorem dX11_init_63 : decode cX11_init 63 = .ok (.iastore, 1) := by decide +kernel
theorem dX11_init_64 : decode cX11_init 64 = .ok (.aload_n 0, 1) := by decide +kernel
theorem dX11_init_65 : decode cX11_init 65 = .ok (.getfield 7, 3) := by decide +kernel
theorem dX11_init_68 : decode cX11_init 68 = .ok (.bipush 14, 2) := by decide +kernel
theorem dX11_init_70 : decode cX11_init 70 = .ok (.bipush 30, 2) := by decide +kernel
theorem dX11_init_72 : decode cX11_init 72 = .ok (.iastore, 1) := by decide +kernel
theorem dX11_init_73 : decode cX11_init 73 = .ok (.return_, 1) := by decide +kernel
theorem dX11_in_0 : decode cX11_in 0 = .ok (.iload_n 0, 1) := by decide +kernel
theorem dX11_in_1 : decode cX11_in 1 = .ok (.iload_n 1, 1) := by decide +kernel
theorem dX11_in_2 : decode cX11_in 2 = .ok (.if_icmp .lt 12, 3) := by decide +kernel
theorem dX11_in_5 : decode cX11_in 5 = .ok (.iload_n 0, 1) := by decide +kernel
theorem dX11_in_6 : decode cX11_in 6 = .ok (.iload_n 2, 1) := by decide +kernel
theorem dX11_in_7 : decode cX11_in 7 = .ok (.if_icmp .gt 7, 3) := by decide +kernel
theorem dX11_in_10 : decode cX11_in 10 = .ok (.iconst 1, 1) := by decide +kernel
theorem dX11_in_11 : decode cX11_in 11 = .ok (.goto 4, 3) := by decide +kernel
theorem dX11_in_14 : decode cX11_in 14 = .ok (.iconst 0, 1) := by decide +kernel
theorem dX11_in_15 : decode cX11_in 15 = .ok (.ireturn, 1) := by decide +kernel
theorem dX11_begins_0 : decode cX11_begins 0 = .ok (.iconst 0, 1) := by decide +kernel
theorem dX11_begins_1 : decode cX11_begins 1 = .ok (.istore_n 1, 1) := by decide +kernel
theorem dX11_begins_2 : decode cX11_begins 2 = .ok (.iload_n 1, 1) := by decide +kernel
theorem dX11_begins_3 : decode cX11_begins 3 = .ok (.sipush 229, 3) := by decide +kernel
theorem dX11_begins_6 : decode cX11_begins 6 = .ok (.if_icmp .ge 21, 3) := by decide +kernel
theorem dX11_begins_9 : decode cX11_begins 9 = .ok (.aload_n 0, 1) := by decide +kernel
theorem dX11_begins_10 : decode cX11_begins 10 = .ok (.getfield 13, 3) := by decide +kernel
theorem dX11_begins_13 : decode cX11_begins 13 = .ok (.iload_n 1, 1) := by decide +kernel
theorem dX11_begins_14 : decode cX11_begins 14 = .ok (.aload_n 0, 1) := by decide +kernel
theorem dX11_begins_15 : decode cX11_begins 15 = .ok (.getfield 7, 3) := by decide +kernel
theorem dX11_begins_18 : decode cX11_begins 18 = .ok (.iload_n 1, 1) := by decide +kernel
theorem dX11_begins_19 : decode cX11_begins 19 = .ok (.iaload, 1) := by decide +kernel
theorem dX11_begins_20 : decode cX11_begins 20 = .ok (.iastore, 1) := by decide +kernel
theorem dX11_begins_21 : decode cX11_begins 21 = .ok (.iinc 1 1, 3) := by decide +kernel
theorem dX11_begins_24 : decode cX11_begins 24 = .ok (.goto (-22), 3) := by decide +kernel
theorem dX11_begins_27 : decode cX11_begins 27 = .ok (.return_, 1) := by decide +kernel
theorem dX11_returns_0 : decode cX11_returns 0 = .ok (.iconst 0, 1) := by decide +kernel
theorem dX11_returns_1 : decode cX11_returns 1 = .ok (.istore_n 1, 1) := by decide +kernel
theorem dX11_returns_2 : decode cX11_returns 2 = .ok (.iload_n 1, 1) := by decide +kernel
theorem dX11_returns_3 : decode cX11_returns 3 = .ok (.sipush 229, 3) := by decide +kernel
theorem dX11_returns_6 : decode cX11_returns 6 = .ok (.if_icmp .ge 21, 3) := by decide +kernel
theorem dX11_returns_9 : decode cX11_returns 9 = .ok (.aload_n 0, 1) := by decide +kernel
theorem dX11_returns_10 : decode cX11_returns 10 = .ok (.getfield 7, 3) := by decide +kernel
theorem dX11_returns_13 : decode cX11_returns 13 = .ok (.iload_n 1, 1) := by decide +kernel
theorem dX11_returns_14 : decode cX11_returns 14 = .ok (.aload_n 0, 1) := by decide +kernel
theorem dX11_returns_15 : decode cX11_returns 15 = .ok (.getfield 13, 3) := by decide +kernel
theorem dX11_returns_18 : decode cX11_returns 18 = .ok (.iload_n 1, 1) := by decide +kernel
theorem dX11_returns_19 : decode cX11_returns 19 = .ok (.iaload, 1) := by decide +kernel
theorem dX11_returns_20 : decode cX11_returns 20 = .ok (.iastore, 1) := by decide +kernel
theorem dX11_returns_21 : decode cX11_returns 21 = .ok (.iinc 1 1, 3) := by decide +kernel
theorem dX11_returns_24 : decode cX11_returns 24 = .ok (.goto (-22), 3) := by decide +kernel
theorem dX11_returns_27 : decode cX11_returns 27 = .ok (.return_, 1) := by decide +kernel
theorem dX11_acted_0 : decode cX11_acted 0 = .ok (.iload_n 1, 1) := by decide +kernel
theorem dX11_acted_1 : decode cX11_acted 1 = .ok (.ifCond .ge 5, 3) := by decide +kernel
theorem dX11_acted_4 : decode cX11_acted 4 = .ok (.iload_n 1, 1) := by decide +kernel
theorem dX11_acted_5 : decode cX11_acted 5 = .ok (.ireturn, 1) := by decide +kernel
theorem dX11_acted_6 : decode cX11_acted 6 = .ok (.aload_n 0, 1) := by decide +kernel
theorem dX11_acted_7 : decode cX11_acted 7 = .ok (.getfield 28, 3) := by decide +kernel
theorem dX11_acted_10 : decode cX11_acted 10 = .ok (.iconst 4, 1) := by decide +kernel
theorem dX11_acted_11 : decode cX11_acted 11 = .ok (.if_icmp .ne 44, 3) := by decide +kernel
theorem dX11_acted_14 : decode cX11_acted 14 = .ok (.iconst 0, 1) := by decide +kernel
theorem dX11_acted_15 : decode cX11_acted 15 = .ok (.istore_n 2, 1) := by decide +kernel
theorem dX11_acted_16 : decode cX11_acted 16 = .ok (.iload_n 2, 1) := by decide +kernel
theorem dX11_acted_17 : decode cX11_acted 17 = .ok (.sipush 687, 3) := by decide +kernel
theorem dX11_acted_20 : decode cX11_acted 20 = .ok (.if_icmp .ge 25, 3) := by decide +kernel
theorem dX11_acted_23 : decode cX11_acted 23 = .ok (.aload_n 0, 1) := by decide +kernel
theorem dX11_acted_24 : decode cX11_acted 24 = .ok (.getfield 19, 3) := by decide +kernel
theorem dX11_acted_27 : decode cX11_acted 27 = .ok (.iload_n 2, 1) := by decide +kernel
theorem dX11_acted_28 : decode cX11_acted 28 = .ok (.aload_n 0, 1) := by decide +kernel
theorem dX11_acted_29 : decode cX11_acted 29 = .ok (.getfield 19, 3) := by decide +kernel
theorem dX11_acted_32 : decode cX11_acted 32 = .ok (.iload_n 2, 1) := by decide +kernel
theorem dX11_acted_33 : decode cX11_acted 33 = .ok (.sipush 229, 3) := by decide +kernel
theorem dX11_acted_36 : decode cX11_acted 36 = .ok (.iadd, 1) := by decide +kernel
theorem dX11_acted_37 : decode cX11_acted 37 = .ok (.iaload, 1) := by decide +kernel
theorem dX11_acted_38 : decode cX11_acted 38 = .ok (.iastore, 1) := by decide +kernel
theorem dX11_acted_39 : decode cX11_acted 39 = .ok (.iinc 2 1, 3) := by decide +kernel
theorem dX11_acted_42 : decode cX11_acted 42 = .ok (.goto (-26), 3) := by decide +kernel
theorem dX11_acted_45 : decode cX11_acted 45 = .ok (.aload_n 0, 1) := by decide +kernel
theorem dX11_acted_46 : decode cX11_acted 46 = .ok (.dup, 1) := by decide +kernel
theorem dX11_acted_47 : decode cX11_acted 47 = .ok (.getfield 28, 3) := by decide +kernel
theorem dX11_acted_50 : decode cX11_acted 50 = .ok (.iconst 1, 1) := by decide +kernel
theorem dX11_acted_51 : decode cX11_acted 51 = .ok (.isub, 1) := by decide +kernel
theorem dX11_acted_52 : decode cX11_acted 52 = .ok (.putfield 28, 3) := by decide +kernel
theorem dX11_acted_55 : decode cX11_acted 55 = .ok (.iconst 0, 1) := by decide +kernel
theorem dX11_acted_56 : decode cX11_acted 56 = .ok (.istore_n 2, 1) := by decide +kernel
theorem dX11_acted_57 : decode cX11_acted 57 = .ok (.iload_n 2, 1) := by decide +kernel
theorem dX11_acted_58 : decode cX11_acted 58 = .ok (.sipush 229, 3) := by decide +kernel
theorem dX11_acted_61 : decode cX11_acted 61 = .ok (.if_icmp .ge 30, 3) := by decide +kernel
theorem dX11_acted_64 : decode cX11_acted 64 = .ok (.aload_n 0, 1) := by decide +kernel
theorem dX11_acted_65 : decode cX11_acted 65 = .ok (.getfield 19, 3) := by decide +kernel
theorem dX11_acted_68 : decode cX11_acted 68 = .ok (.sipush 229, 3) := by decide +kernel
theorem dX11_acted_71 : decode cX11_acted 71 = .ok (.aload_n 0, 1) := by decide +kernel
theorem dX11_acted_72 : decode cX11_acted 72 = .ok (.getfield 28, 3) := by decide +kernel
theorem dX11_acted_75 : decode cX11_acted 75 = .ok (.imul, 1) := by decide +kernel
theorem dX11_acted_76 : decode cX11_acted 76 = .ok (.iload_n 2, 1) := by decide +kernel
theorem dX11_acted_77 : decode cX11_acted 77 = .ok (.iadd, 1) := by decide +kernel
theorem dX11_acted_78 : decode cX11_acted 78 = .ok (.aload_n 0, 1) := by decide +kernel
theorem dX11_acted_79 : decode cX11_acted 79 = .ok (.getfield 13, 3) := by decide +kernel
theorem dX11_acted_82 : decode cX11_acted 82 = .ok (.iload_n 2, 1) := by decide +kernel
theorem dX11_acted_83 : decode cX11_acted 83 = .ok (.iaload, 1) := by decide +kernel
theorem dX11_acted_84 : decode cX11_acted 84 = .ok (.iastore, 1) := by decide +kernel
theorem dX11_acted_85 : decode cX11_acted 85 = .ok (.iinc 2 1, 3) := by decide +kernel
theorem dX11_acted_88 : decode cX11_acted 88 = .ok (.goto (-31), 3) := by decide +kernel
theorem dX11_acted_91 : decode cX11_acted 91 = .ok (.aload_n 0, 1) := by decide +kernel
theorem dX11_acted_92 : decode cX11_acted 92 = .ok (.dup, 1) := by decide +kernel
theorem dX11_acted_93 : decode cX11_acted 93 = .ok (.getfield 28, 3) := by decide +kernel
theorem dX11_acted_96 : decode cX11_acted 96 = .ok (.iconst 1, 1) := by decide +kernel
theorem dX11_acted_97 : decode cX11_acted 97 = .ok (.iadd, 1) := by decide +kernel
theorem dX11_acted_98 : decode cX11_acted 98 = .ok (.putfield 28, 3) := by decide +kernel
theorem dX11_acted_101 : decode cX11_acted 101 = .ok (.iload_n 1, 1) := by decide +kernel
theorem dX11_acted_102 : decode cX11_acted 102 = .ok (.ireturn, 1) := by decide +kernel
theorem dX11_isPerson_0 : decode cX11_isPerson 0 = .ok (.iload_n 1, 1) := by decide +kernel
theorem dX11_isPerson_1 : decode cX11_isPerson 1 = .ok (.iconst 0, 1) := by decide +kernel
theorem dX11_isPerson_2 : decode cX11_isPerson 2 = .ok (.aload_n 0, 1) := by decide +kernel
theorem dX11_isPerson_3 : decode cX11_isPerson 3 = .ok (.getfield 7, 3) := by decide +kernel
theorem dX11_isPerson_6 : decode cX11_isPerson 6 = .ok (.iconst 0, 1) := by decide +kernel
theorem dX11_isPerson_7 : decode cX11_isPerson 7 = .ok (.iaload, 1) := by decide +kernel
theorem dX11_isPerson_8 : decode cX11_isPerson 8 = .ok (.iconst 1, 1) := by decide +kernel
theorem dX11_isPerson_9 : decode cX11_isPerson 9 = .ok (.isub, 1) := by decide +kernel
theorem dX11_isPerson_10 : decode cX11_isPerson 10 = .ok (.invokestatic 32, 3) := by decide +kernel
theorem dX11_isPerson_13 : decode cX11_isPerson 13 = .ok (.ireturn, 1) := by decide +kernel
theorem dX11_isRegion_0 : decode cX11_isRegion 0 = .ok (.iload_n 1, 1) := by decide +kernel
theorem dX11_isRegion_1 : decode cX11_isRegion 1 = .ok (.iconst 0, 1) := by decide +kernel
theorem dX11_isRegion_2 : decode cX11_isRegion 2 = .ok (.aload_n 0, 1) := by decide +kernel
theorem dX11_isRegion_3 : decode cX11_isRegion 3 = .ok (.getfield 7, 3) := by decide +kernel
theorem dX11_isRegion_6 : decode cX11_isRegion 6 = .ok (.iconst 1, 1) := by decide +kernel
theorem dX11_isRegion_7 : decode cX11_isRegion 7 = .ok (.iaload, 1) := by decide +kernel
theorem dX11_isRegion_8 : decode cX11_isRegion 8 = .ok (.iconst 1, 1) := by decide +kernel
theorem dX11_isRegion_9 : decode cX11_isRegion 9 = .ok (.isub, 1) := by decide +kernel
theorem dX11_isRegion_10 : decode cX11_isRegion 10 = .ok (.invokestatic 32, 3) := by decide +kernel
theorem dX11_isRegion_13 : decode cX11_isRegion 13 = .ok (.ireturn, 1) := by decide +kernel
theorem dX11_incidentAt_0 : decode cX11_incidentAt 0 = .ok (.bipush 101, 2) := by decide +kernel
theorem dX11_incidentAt_2 : decode cX11_incidentAt 2 = .ok (.bipush 16, 2) := by decide +kernel
theorem dX11_incidentAt_4 : decode cX11_incidentAt 4 = .ok (.iload_n 0, 1) := by decide +kernel
theorem dX11_incidentAt_5 : decode cX11_incidentAt 5 = .ok (.imul, 1) := by decide +kernel
theorem dX11_incidentAt_6 : decode cX11_incidentAt 6 = .ok (.iadd, 1) := by decide +kernel
theorem dX11_incidentAt_7 : decode cX11_incidentAt 7 = .ok (.ireturn, 1) := by decide +kernel
theorem dX11_isIncident_0 : decode cX11_isIncident 0 = .ok (.iload_n 1, 1) := by decide +kernel
theorem dX11_isIncident_1 : decode cX11_isIncident 1 = .ok (.iconst 0, 1) := by decide +kernel
theorem dX11_isIncident_2 : decode cX11_isIncident 2 = .ok (.bipush 7, 2) := by decide +kernel
theorem dX11_isIncident_4 : decode cX11_isIncident 4 = .ok (.invokestatic 32, 3) := by decide +kernel
theorem dX11_isIncident_7 : decode cX11_isIncident 7 = .ok (.ifCond .eq 22, 3) := by decide +kernel
theorem dX11_isIncident_10 : decode cX11_isIncident 10 = .ok (.aload_n 0, 1) := by decide +kernel
theorem dX11_isIncident_11 : decode cX11_isIncident 11 = .ok (.getfield 7, 3) := by decide +kernel
theorem dX11_isIncident_14 : decode cX11_isIncident 14 = .ok (.iload_n 1, 1) := by decide +kernel
theorem dX11_isIncident_15 : decode cX11_isIncident 15 = .ok (.invokestatic 36, 3) := by decide +kernel
theorem dX11_isIncident_18 : decode cX11_isIncident 18 = .ok (.iconst 0, 1) := by decide +kernel
theorem dX11_isIncident_19 : decode cX11_isIncident 19 = .ok (.iadd, 1) := by decide +kernel
theorem dX11_isIncident_20 : decode cX11_isIncident 20 = .ok (.iaload, 1) := by decide +kernel
theorem dX11_isIncident_21 : decode cX11_isIncident 21 = .ok (.iconst 1, 1) := by decide +kernel
theorem dX11_isIncident_22 : decode cX11_isIncident 22 = .ok (.if_icmp .ne 7, 3) := by decide +kernel
theorem dX11_isIncident_25 : decode cX11_isIncident 25 = .ok (.iconst 1, 1) := by decide +kernel
theorem dX11_isIncident_26 : decode cX11_isIncident 26 = .ok (.goto 4, 3) := by decide +kernel
theorem dX11_isIncident_29 : decode cX11_isIncident 29 = .ok (.iconst 0, 1) := by decide +kernel
theorem dX11_isIncident_30 : decode cX11_isIncident 30 = .ok (.ireturn, 1) := by decide +kernel
theorem dX11_ofWho_0 : decode cX11_ofWho 0 = .ok (.aload_n 0, 1) := by decide +kernel
theorem dX11_ofWho_1 : decode cX11_ofWho 1 = .ok (.getfield 7, 3) := by decide +kernel
theorem dX11_ofWho_4 : decode cX11_ofWho 4 = .ok (.bipush 16, 2) := by decide +kernel
theorem dX11_ofWho_6 : decode cX11_ofWho 6 = .ok (.iconst 5, 1) := by decide +kernel
theorem dX11_ofWho_7 : decode cX11_ofWho 7 = .ok (.iload_n 1, 1) := by decide +kernel
theorem dX11_ofWho_8 : decode cX11_ofWho 8 = .ok (.imul, 1) := by decide +kernel
theorem dX11_ofWho_9 : decode cX11_ofWho 9 = .ok (.iadd, 1) := by decide +kernel
theorem dX11_ofWho_10 : decode cX11_ofWho 10 = .ok (.iload_n 2, 1) := by decide +kernel
theorem dX11_ofWho_11 : decode cX11_ofWho 11 = .ok (.iadd, 1) := by decide +kernel
theorem dX11_ofWho_12 : decode cX11_ofWho 12 = .ok (.iaload, 1) := by decide +kernel
theorem dX11_ofWho_13 : decode cX11_ofWho 13 = .ok (.ireturn, 1) := by decide +kernel
theorem dX11_ofWhere_0 : decode cX11_ofWhere 0 = .ok (.aload_n 0, 1) := by decide +kernel
theorem dX11_ofWhere_1 : decode cX11_ofWhere 1 = .ok (.getfield 7, 3) := by decide +kernel
theorem dX11_ofWhere_4 : decode cX11_ofWhere 4 = .ok (.bipush 56, 2) := by decide +kernel
theorem dX11_ofWhere_6 : decode cX11_ofWhere 6 = .ok (.bipush 9, 2) := by decide +kernel
theorem dX11_ofWhere_8 : decode cX11_ofWhere 8 = .ok (.iload_n 1, 1) := by decide +kernel
theorem dX11_ofWhere_9 : decode cX11_ofWhere 9 = .ok (.imul, 1) := by decide +kernel
theorem dX11_ofWhere_10 : decode cX11_ofWhere 10 = .ok (.iadd, 1) := by decide +kernel
theorem dX11_ofWhere_11 : decode cX11_ofWhere 11 = .ok (.iload_n 2, 1) := by decide +kernel
theorem dX11_ofWhere_12 : decode cX11_ofWhere 12 = .ok (.iadd, 1) := by decide +kernel
theorem dX11_ofWhere_13 : decode cX11_ofWhere 13 = .ok (.iaload, 1) := by decide +kernel
theorem dX11_ofWhere_14 : decode cX11_ofWhere 14 = .ok (.ireturn, 1) := by decide +kernel
theorem dX11_isWithin_0 : decode cX11_isWithin 0 = .ok (.iload_n 1, 1) := by decide +kernel
theorem dX11_isWithin_1 : decode cX11_isWithin 1 = .ok (.iload_n 2, 1) := by decide +kernel
theorem dX11_isWithin_2 : decode cX11_isWithin 2 = .ok (.if_icmp .gt 21, 3) := by decide +kernel
theorem dX11_isWithin_5 : decode cX11_isWithin 5 = .ok (.iload_n 0, 1) := by decide +kernel
theorem dX11_isWithin_6 : decode cX11_isWithin 6 = .ok (.iload_n 1, 1) := by decide +kernel
theorem dX11_isWithin_7 : decode cX11_isWithin 7 = .ok (.if_icmp .lt 12, 3) := by decide +kernel
theorem dX11_isWithin_10 : decode cX11_isWithin 10 = .ok (.iload_n 0, 1) := by decide +kernel
theorem dX11_isWithin_11 : decode cX11_isWithin 11 = .ok (.iload_n 2, 1) := by decide +kernel
theorem dX11_isWithin_12 : decode cX11_isWithin 12 = .ok (.if_icmp .ge 7, 3) := by decide +kernel
theorem dX11_isWithin_15 : decode cX11_isWithin 15 = .ok (.iconst 1, 1) := by decide +kernel
theorem dX11_isWithin_16 : decode cX11_isWithin 16 = .ok (.goto 22, 3) := by decide +kernel
theorem dX11_isWithin_19 : decode cX11_isWithin 19 = .ok (.iconst 0, 1) := by decide +kernel
theorem dX11_isWithin_20 : decode cX11_isWithin 20 = .ok (.goto 18, 3) := by decide +kernel
theorem dX11_isWithin_23 : decode cX11_isWithin 23 = .ok (.iload_n 0, 1) := by decide +kernel
theorem dX11_isWithin_24 : decode cX11_isWithin 24 = .ok (.iload_n 1, 1) := by decide +kernel
theorem dX11_isWithin_25 : decode cX11_isWithin 25 = .ok (.if_icmp .ge 8, 3) := by decide +kernel
theorem dX11_isWithin_28 : decode cX11_isWithin 28 = .ok (.iload_n 0, 1) := by decide +kernel
theorem dX11_isWithin_29 : decode cX11_isWithin 29 = .ok (.iload_n 2, 1) := by decide +kernel
theorem dX11_isWithin_30 : decode cX11_isWithin 30 = .ok (.if_icmp .ge 7, 3) := by decide +kernel
theorem dX11_isWithin_33 : decode cX11_isWithin 33 = .ok (.iconst 1, 1) := by decide +kernel
theorem dX11_isWithin_34 : decode cX11_isWithin 34 = .ok (.goto 4, 3) := by decide +kernel
theorem dX11_isWithin_37 : decode cX11_isWithin 37 = .ok (.iconst 0, 1) := by decide +kernel
theorem dX11_isWithin_38 : decode cX11_isWithin 38 = .ok (.ireturn, 1) := by decide +kernel
theorem dX11_covers_0 : decode cX11_covers 0 = .ok (.aload_n 0, 1) := by decide +kernel
theorem dX11_covers_1 : decode cX11_covers 1 = .ok (.iload_n 1, 1) := by decide +kernel
theorem dX11_covers_2 : decode cX11_covers 2 = .ok (.iconst 3, 1) := by decide +kernel
theorem dX11_covers_3 : decode cX11_covers 3 = .ok (.invokevirtual 40, 3) := by decide +kernel
theorem dX11_covers_6 : decode cX11_covers 6 = .ok (.ifCond .le 26, 3) := by decide +kernel
theorem dX11_covers_9 : decode cX11_covers 9 = .ok (.iload_n 2, 1) := by decide +kernel
theorem dX11_covers_10 : decode cX11_covers 10 = .ok (.aload_n 0, 1) := by decide +kernel
theorem dX11_covers_11 : decode cX11_covers 11 = .ok (.iload_n 1, 1) := by decide +kernel
theorem dX11_covers_12 : decode cX11_covers 12 = .ok (.iconst 0, 1) := by decide +kernel
theorem dX11_covers_13 : decode cX11_covers 13 = .ok (.invokevirtual 40, 3) := by decide +kernel
theorem dX11_covers_16 : decode cX11_covers 16 = .ok (.aload_n 0, 1) := by decide +kernel
theorem dX11_covers_17 : decode cX11_covers 17 = .ok (.iload_n 1, 1) := by decide +kernel
theorem dX11_covers_18 : decode cX11_covers 18 = .ok (.iconst 1, 1) := by decide +kernel
theorem dX11_covers_19 : decode cX11_covers 19 = .ok (.invokevirtual 40, 3) := by decide +kernel
theorem dX11_covers_22 : decode cX11_covers 22 = .ok (.invokestatic 44, 3) := by decide +kernel
theorem dX11_covers_25 : decode cX11_covers 25 = .ok (.ifCond .eq 7, 3) := by decide +kernel
theorem dX11_covers_28 : decode cX11_covers 28 = .ok (.iconst 1, 1) := by decide +kernel
theorem dX11_covers_29 : decode cX11_covers 29 = .ok (.goto 4, 3) := by decide +kernel
theorem dX11_covers_32 : decode cX11_covers 32 = .ok (.iconst 0, 1) := by decide +kernel
theorem dX11_covers_33 : decode cX11_covers 33 = .ok (.ireturn, 1) := by decide +kernel
theorem dX11_regionAt_0 : decode cX11_regionAt 0 = .ok (.iload_n 1, 1) := by decide +kernel
theorem dX11_regionAt_1 : decode cX11_regionAt 1 = .ok (.bipush 60, 2) := by decide +kernel
theorem dX11_regionAt_3 : decode cX11_regionAt 3 = .ok (.idiv, 1) := by decide +kernel
theorem dX11_regionAt_4 : decode cX11_regionAt 4 = .ok (.bipush 24, 2) := by decide +kernel
theorem dX11_regionAt_6 : decode cX11_regionAt 6 = .ok (.irem, 1) := by decide +kernel
theorem dX11_regionAt_7 : decode cX11_regionAt 7 = .ok (.istore_n 2, 1) := by decide +kernel
theorem dX11_regionAt_8 : decode cX11_regionAt 8 = .ok (.iconst 0, 1) := by decide +kernel
theorem dX11_regionAt_9 : decode cX11_regionAt 9 = .ok (.istore_n 3, 1) := by decide +kernel
theorem dX11_regionAt_10 : decode cX11_regionAt 10 = .ok (.iload_n 3, 1) := by decide +kernel
theorem dX11_regionAt_11 : decode cX11_regionAt 11 = .ok (.aload_n 0, 1) := by decide +kernel
theorem dX11_regionAt_12 : decode cX11_regionAt 12 = .ok (.getfield 7, 3) := by decide +kernel
theorem dX11_regionAt_15 : decode cX11_regionAt 15 = .ok (.iconst 1, 1) := by decide +kernel
theorem dX11_regionAt_16 : decode cX11_regionAt 16 = .ok (.iaload, 1) := by decide +kernel
theorem dX11_regionAt_17 : decode cX11_regionAt 17 = .ok (.if_icmp .ge 20, 3) := by decide +kernel
theorem dX11_regionAt_20 : decode cX11_regionAt 20 = .ok (.aload_n 0, 1) := by decide +kernel
theorem dX11_regionAt_21 : decode cX11_regionAt 21 = .ok (.iload_n 3, 1) := by decide +kernel
theorem dX11_regionAt_22 : decode cX11_regionAt 22 = .ok (.iload_n 2, 1) := by decide +kernel
theorem dX11_regionAt_23 : decode cX11_regionAt 23 = .ok (.invokevirtual 47, 3) := by decide +kernel
theorem dX11_regionAt_26 : decode cX11_regionAt 26 = .ok (.ifCond .eq 5, 3) := by decide +kernel
theorem dX11_regionAt_29 : decode cX11_regionAt 29 = .ok (.iload_n 3, 1) := by decide +kernel
theorem dX11_regionAt_30 : decode cX11_regionAt 30 = .ok (.ireturn, 1) := by decide +kernel
theorem dX11_regionAt_31 : decode cX11_regionAt 31 = .ok (.iinc 3 1, 3) := by decide +kernel
theorem dX11_regionAt_34 : decode cX11_regionAt 34 = .ok (.goto (-24), 3) := by decide +kernel
theorem dX11_regionAt_37 : decode cX11_regionAt 37 = .ok (.iconst (-1), 1) := by decide +kernel
theorem dX11_regionAt_38 : decode cX11_regionAt 38 = .ok (.ireturn, 1) := by decide +kernel
theorem dX11_personAt_0 : decode cX11_personAt 0 = .ok (.aload_n 0, 1) := by decide +kernel
theorem dX11_personAt_1 : decode cX11_personAt 1 = .ok (.iload_n 1, 1) := by decide +kernel
theorem dX11_personAt_2 : decode cX11_personAt 2 = .ok (.invokevirtual 51, 3) := by decide +kernel
theorem dX11_personAt_5 : decode cX11_personAt 5 = .ok (.istore_n 3, 1) := by decide +kernel
theorem dX11_personAt_6 : decode cX11_personAt 6 = .ok (.iload_n 3, 1) := by decide +kernel
theorem dX11_personAt_7 : decode cX11_personAt 7 = .ok (.ifCond .ge 5, 3) := by decide +kernel
theorem dX11_personAt_10 : decode cX11_personAt 10 = .ok (.iconst (-1), 1) := by decide +kernel
theorem dX11_personAt_11 : decode cX11_personAt 11 = .ok (.ireturn, 1) := by decide +kernel
theorem dX11_personAt_12 : decode cX11_personAt 12 = .ok (.iconst (-1), 1) := by decide +kernel
theorem dX11_personAt_13 : decode cX11_personAt 13 = .ok (.istore 4, 2) := by decide +kernel
theorem dX11_personAt_15 : decode cX11_personAt 15 = .ok (.iconst 0, 1) := by decide +kernel
theorem dX11_personAt_16 : decode cX11_personAt 16 = .ok (.istore 5, 2) := by decide +kernel
theorem dX11_personAt_18 : decode cX11_personAt 18 = .ok (.iload 5, 2) := by decide +kernel
theorem dX11_personAt_20 : decode cX11_personAt 20 = .ok (.aload_n 0, 1) := by decide +kernel
theorem dX11_personAt_21 : decode cX11_personAt 21 = .ok (.getfield 7, 3) := by decide +kernel
theorem dX11_personAt_24 : decode cX11_personAt 24 = .ok (.bipush 15, 2) := by decide +kernel
theorem dX11_personAt_26 : decode cX11_personAt 26 = .ok (.iaload, 1) := by decide +kernel
theorem dX11_personAt_27 : decode cX11_personAt 27 = .ok (.if_icmp .ge 62, 3) := by decide +kernel
theorem dX11_personAt_30 : decode cX11_personAt 30 = .ok (.iload_n 2, 1) := by decide +kernel
theorem dX11_personAt_31 : decode cX11_personAt 31 = .ok (.ifCond .ne 58, 3) := by decide +kernel
theorem dX11_personAt_34 : decode cX11_personAt 34 = .ok (.bipush 83, 2) := by decide +kernel
theorem dX11_personAt_36 : decode cX11_personAt 36 = .ok (.iconst 3, 1) := by decide +kernel
theorem dX11_personAt_37 : decode cX11_personAt 37 = .ok (.iload 5, 2) := by decide +kernel
theorem dX11_personAt_39 : decode cX11_personAt 39 = .ok (.imul, 1) := by decide +kernel
theorem dX11_personAt_40 : decode cX11_personAt 40 = .ok (.iadd, 1) := by decide +kernel
theorem dX11_personAt_41 : decode cX11_personAt 41 = .ok (.istore 6, 2) := by decide +kernel
theorem dX11_personAt_43 : decode cX11_personAt 43 = .ok (.aload_n 0, 1) := by decide +kernel
theorem dX11_personAt_44 : decode cX11_personAt 44 = .ok (.getfield 7, 3) := by decide +kernel
theorem dX11_personAt_47 : decode cX11_personAt 47 = .ok (.iload 6, 2) := by decide +kernel
theorem dX11_personAt_49 : decode cX11_personAt 49 = .ok (.iaload, 1) := by decide +kernel
theorem dX11_personAt_50 : decode cX11_personAt 50 = .ok (.iload_n 3, 1) := by decide +kernel
theorem dX11_personAt_51 : decode cX11_personAt 51 = .ok (.if_icmp .ne 28, 3) := by decide +kernel
theorem dX11_personAt_54 : decode cX11_personAt 54 = .ok (.aload_n 0, 1) := by decide +kernel
theorem dX11_personAt_55 : decode cX11_personAt 55 = .ok (.getfield 7, 3) := by decide +kernel
theorem dX11_personAt_58 : decode cX11_personAt 58 = .ok (.iload 6, 2) := by decide +kernel
theorem dX11_personAt_60 : decode cX11_personAt 60 = .ok (.iconst 2, 1) := by decide +kernel
theorem dX11_personAt_61 : decode cX11_personAt 61 = .ok (.iadd, 1) := by decide +kernel
theorem dX11_personAt_62 : decode cX11_personAt 62 = .ok (.iaload, 1) := by decide +kernel
theorem dX11_personAt_63 : decode cX11_personAt 63 = .ok (.iload_n 1, 1) := by decide +kernel
theorem dX11_personAt_64 : decode cX11_personAt 64 = .ok (.if_icmp .le 15, 3) := by decide +kernel
theorem dX11_personAt_67 : decode cX11_personAt 67 = .ok (.aload_n 0, 1) := by decide +kernel
theorem dX11_personAt_68 : decode cX11_personAt 68 = .ok (.getfield 7, 3) := by decide +kernel
theorem dX11_personAt_71 : decode cX11_personAt 71 = .ok (.iload 6, 2) := by decide +kernel
theorem dX11_personAt_73 : decode cX11_personAt 73 = .ok (.iconst 1, 1) := by decide +kernel
theorem dX11_personAt_74 : decode cX11_personAt 74 = .ok (.iadd, 1) := by decide +kernel
theorem dX11_personAt_75 : decode cX11_personAt 75 = .ok (.iaload, 1) := by decide +kernel
theorem dX11_personAt_76 : decode cX11_personAt 76 = .ok (.goto 5, 3) := by decide +kernel
theorem dX11_personAt_79 : decode cX11_personAt 79 = .ok (.iload 4, 2) := by decide +kernel
theorem dX11_personAt_81 : decode cX11_personAt 81 = .ok (.istore 4, 2) := by decide +kernel
theorem dX11_personAt_83 : decode cX11_personAt 83 = .ok (.iinc 5 1, 3) := by decide +kernel
theorem dX11_personAt_86 : decode cX11_personAt 86 = .ok (.goto (-68), 3) := by decide +kernel
theorem dX11_personAt_89 : decode cX11_personAt 89 = .ok (.iload_n 1, 1) := by decide +kernel
theorem dX11_personAt_90 : decode cX11_personAt 90 = .ok (.bipush 60, 2) := by decide +kernel
theorem dX11_personAt_92 : decode cX11_personAt 92 = .ok (.idiv, 1) := by decide +kernel
theorem dX11_personAt_93 : decode cX11_personAt 93 = .ok (.aload_n 0, 1) := by decide +kernel
theorem dX11_personAt_94 : decode cX11_personAt 94 = .ok (.iload_n 3, 1) := by decide +kernel
theorem dX11_personAt_95 : decode cX11_personAt 95 = .ok (.iconst 2, 1) := by decide +kernel
theorem dX11_personAt_96 : decode cX11_personAt 96 = .ok (.invokevirtual 40, 3) := by decide +kernel
theorem dX11_personAt_99 : decode cX11_personAt 99 = .ok (.idiv, 1) := by decide +kernel
theorem dX11_personAt_100 : decode cX11_personAt 100 = .ok (.iload_n 2, 1) := by decide +kernel
theorem dX11_personAt_101 : decode cX11_personAt 101 = .ok (.iadd, 1) := by decide +kernel
theorem dX11_personAt_102 : decode cX11_personAt 102 = .ok (.aload_n 0, 1) := by decide +kernel
theorem dX11_personAt_103 : decode cX11_personAt 103 = .ok (.iload_n 3, 1) := by decide +kernel
theorem dX11_personAt_104 : decode cX11_personAt 104 = .ok (.iconst 3, 1) := by decide +kernel
theorem dX11_personAt_105 : decode cX11_personAt 105 = .ok (.invokevirtual 40, 3) := by decide +kernel
theorem dX11_personAt_108 : decode cX11_personAt 108 = .ok (.irem, 1) := by decide +kernel
theorem dX11_personAt_109 : decode cX11_personAt 109 = .ok (.istore 5, 2) := by decide +kernel
theorem dX11_personAt_111 : decode cX11_personAt 111 = .ok (.iload 4, 2) := by decide +kernel
theorem dX11_personAt_113 : decode cX11_personAt 113 = .ok (.ifCond .lt 8, 3) := by decide +kernel
theorem dX11_personAt_116 : decode cX11_personAt 116 = .ok (.iload 4, 2) := by decide +kernel
theorem dX11_personAt_118 : decode cX11_personAt 118 = .ok (.goto 12, 3) := by decide +kernel
theorem dX11_personAt_121 : decode cX11_personAt 121 = .ok (.aload_n 0, 1) := by decide +kernel
theorem dX11_personAt_122 : decode cX11_personAt 122 = .ok (.iload_n 3, 1) := by decide +kernel
theorem dX11_personAt_123 : decode cX11_personAt 123 = .ok (.iconst 4, 1) := by decide +kernel
theorem dX11_personAt_124 : decode cX11_personAt 124 = .ok (.iload 5, 2) := by decide +kernel
theorem dX11_personAt_126 : decode cX11_personAt 126 = .ok (.iadd, 1) := by decide +kernel
theorem dX11_personAt_127 : decode cX11_personAt 127 = .ok (.invokevirtual 40, 3) := by decide +kernel
theorem dX11_personAt_130 : decode cX11_personAt 130 = .ok (.ireturn, 1) := by decide +kernel
theorem dX11_isQuiet_0 : decode cX11_isQuiet 0 = .ok (.iload_n 2, 1) := by decide +kernel
theorem dX11_isQuiet_1 : decode cX11_isQuiet 1 = .ok (.bipush 60, 2) := by decide +kernel
theorem dX11_isQuiet_3 : decode cX11_isQuiet 3 = .ok (.idiv, 1) := by decide +kernel
theorem dX11_isQuiet_4 : decode cX11_isQuiet 4 = .ok (.bipush 24, 2) := by decide +kernel
theorem dX11_isQuiet_6 : decode cX11_isQuiet 6 = .ok (.irem, 1) := by decide +kernel
theorem dX11_isQuiet_7 : decode cX11_isQuiet 7 = .ok (.aload_n 0, 1) := by decide +kernel
theorem dX11_isQuiet_8 : decode cX11_isQuiet 8 = .ok (.iload_n 1, 1) := by decide +kernel
theorem dX11_isQuiet_9 : decode cX11_isQuiet 9 = .ok (.iconst 0, 1) := by decide +kernel
theorem dX11_isQuiet_10 : decode cX11_isQuiet 10 = .ok (.invokevirtual 54, 3) := by decide +kernel
theorem dX11_isQuiet_13 : decode cX11_isQuiet 13 = .ok (.aload_n 0, 1) := by decide +kernel
theorem dX11_isQuiet_14 : decode cX11_isQuiet 14 = .ok (.iload_n 1, 1) := by decide +kernel
theorem dX11_isQuiet_15 : decode cX11_isQuiet 15 = .ok (.iconst 1, 1) := by decide +kernel
theorem dX11_isQuiet_16 : decode cX11_isQuiet 16 = .ok (.invokevirtual 54, 3) := by decide +kernel
theorem dX11_isQuiet_19 : decode cX11_isQuiet 19 = .ok (.invokestatic 44, 3) := by decide +kernel
theorem dX11_isQuiet_22 : decode cX11_isQuiet 22 = .ok (.ireturn, 1) := by decide +kernel
theorem dX11_isException_0 : decode cX11_isException 0 = .ok (.aload_n 0, 1) := by decide +kernel
theorem dX11_isException_1 : decode cX11_isException 1 = .ok (.iload_n 1, 1) := by decide +kernel
theorem dX11_isException_2 : decode cX11_isException 2 = .ok (.iconst 2, 1) := by decide +kernel
theorem dX11_isException_3 : decode cX11_isException 3 = .ok (.invokevirtual 54, 3) := by decide +kernel
theorem dX11_isException_6 : decode cX11_isException 6 = .ok (.iload_n 2, 1) := by decide +kernel
theorem dX11_isException_7 : decode cX11_isException 7 = .ok (.ishr, 1) := by decide +kernel
theorem dX11_isException_8 : decode cX11_isException 8 = .ok (.iconst 1, 1) := by decide +kernel
theorem dX11_isException_9 : decode cX11_isException 9 = .ok (.iand, 1) := by decide +kernel
theorem dX11_isException_10 : decode cX11_isException 10 = .ok (.iconst 1, 1) := by decide +kernel
theorem dX11_isException_11 : decode cX11_isException 11 = .ok (.if_icmp .ne 7, 3) := by decide +kernel
theorem dX11_isException_14 : decode cX11_isException 14 = .ok (.iconst 1, 1) := by decide +kernel
theorem dX11_isException_15 : decode cX11_isException 15 = .ok (.goto 4, 3) := by decide +kernel
theorem dX11_isException_18 : decode cX11_isException 18 = .ok (.iconst 0, 1) := by decide +kernel
theorem dX11_isException_19 : decode cX11_isException 19 = .ok (.ireturn, 1) := by decide +kernel
theorem dX11_pages_0 : decode cX11_pages 0 = .ok (.iload_n 1, 1) := by decide +kernel
theorem dX11_pages_1 : decode cX11_pages 1 = .ok (.invokestatic 36, 3) := by decide +kernel
theorem dX11_pages_4 : decode cX11_pages 4 = .ok (.istore_n 2, 1) := by decide +kernel
theorem dX11_pages_5 : decode cX11_pages 5 = .ok (.aload_n 0, 1) := by decide +kernel
theorem dX11_pages_6 : decode cX11_pages 6 = .ok (.aload_n 0, 1) := by decide +kernel
theorem dX11_pages_7 : decode cX11_pages 7 = .ok (.getfield 7, 3) := by decide +kernel
theorem dX11_pages_10 : decode cX11_pages 10 = .ok (.iconst 2, 1) := by decide +kernel
theorem dX11_pages_11 : decode cX11_pages 11 = .ok (.iaload, 1) := by decide +kernel
theorem dX11_pages_12 : decode cX11_pages 12 = .ok (.aload_n 0, 1) := by decide +kernel
theorem dX11_pages_13 : decode cX11_pages 13 = .ok (.getfield 7, 3) := by decide +kernel
theorem dX11_pages_16 : decode cX11_pages 16 = .ok (.iload_n 2, 1) := by decide +kernel
theorem dX11_pages_17 : decode cX11_pages 17 = .ok (.iconst 3, 1) := by decide +kernel
theorem dX11_pages_18 : decode cX11_pages 18 = .ok (.iadd, 1) := by decide +kernel
theorem dX11_pages_19 : decode cX11_pages 19 = .ok (.iaload, 1) := by decide +kernel
theorem dX11_pages_20 : decode cX11_pages 20 = .ok (.invokevirtual 57, 3) := by decide +kernel
theorem dX11_pages_23 : decode cX11_pages 23 = .ok (.istore_n 3, 1) := by decide +kernel
theorem dX11_pages_24 : decode cX11_pages 24 = .ok (.iload_n 3, 1) := by decide +kernel
theorem dX11_pages_25 : decode cX11_pages 25 = .ok (.ifCond .lt 44, 3) := by decide +kernel
theorem dX11_pages_28 : decode cX11_pages 28 = .ok (.aload_n 0, 1) := by decide +kernel
theorem dX11_pages_29 : decode cX11_pages 29 = .ok (.getfield 7, 3) := by decide +kernel
theorem dX11_pages_32 : decode cX11_pages 32 = .ok (.iload_n 2, 1) := by decide +kernel
theorem dX11_pages_33 : decode cX11_pages 33 = .ok (.iconst 2, 1) := by decide +kernel
theorem dX11_pages_34 : decode cX11_pages 34 = .ok (.iadd, 1) := by decide +kernel
theorem dX11_pages_35 : decode cX11_pages 35 = .ok (.iaload, 1) := by decide +kernel
theorem dX11_pages_36 : decode cX11_pages 36 = .ok (.ifCond .ne 37, 3) := by decide +kernel
theorem dX11_pages_39 : decode cX11_pages 39 = .ok (.aload_n 0, 1) := by decide +kernel
theorem dX11_pages_40 : decode cX11_pages 40 = .ok (.iload_n 3, 1) := by decide +kernel
theorem dX11_pages_41 : decode cX11_pages 41 = .ok (.aload_n 0, 1) := by decide +kernel
theorem dX11_pages_42 : decode cX11_pages 42 = .ok (.getfield 7, 3) := by decide +kernel
theorem dX11_pages_45 : decode cX11_pages 45 = .ok (.iconst 2, 1) := by decide +kernel
theorem dX11_pages_46 : decode cX11_pages 46 = .ok (.iaload, 1) := by decide +kernel
theorem dX11_pages_47 : decode cX11_pages 47 = .ok (.invokevirtual 60, 3) := by decide +kernel
theorem dX11_pages_50 : decode cX11_pages 50 = .ok (.ifCond .eq 23, 3) := by decide +kernel
theorem dX11_pages_53 : decode cX11_pages 53 = .ok (.aload_n 0, 1) := by decide +kernel
theorem dX11_pages_54 : decode cX11_pages 54 = .ok (.iload_n 3, 1) := by decide +kernel
theorem dX11_pages_55 : decode cX11_pages 55 = .ok (.aload_n 0, 1) := by decide +kernel
theorem dX11_pages_56 : decode cX11_pages 56 = .ok (.getfield 7, 3) := by decide +kernel
theorem dX11_pages_59 : decode cX11_pages 59 = .ok (.iload_n 2, 1) := by decide +kernel
theorem dX11_pages_60 : decode cX11_pages 60 = .ok (.iconst 1, 1) := by decide +kernel
theorem dX11_pages_61 : decode cX11_pages 61 = .ok (.iadd, 1) := by decide +kernel
theorem dX11_pages_62 : decode cX11_pages 62 = .ok (.iaload, 1) := by decide +kernel
theorem dX11_pages_63 : decode cX11_pages 63 = .ok (.invokevirtual 63, 3) := by decide +kernel
theorem dX11_pages_66 : decode cX11_pages 66 = .ok (.ifCond .ne 7, 3) := by decide +kernel
theorem dX11_pages_69 : decode cX11_pages 69 = .ok (.iconst 1, 1) := by decide +kernel
theorem dX11_pages_70 : decode cX11_pages 70 = .ok (.goto 4, 3) := by decide +kernel
theorem dX11_pages_73 : decode cX11_pages 73 = .ok (.iconst 0, 1) := by decide +kernel
theorem dX11_pages_74 : decode cX11_pages 74 = .ok (.istore 4, 2) := by decide +kernel
theorem dX11_pages_76 : decode cX11_pages 76 = .ok (.aload_n 0, 1) := by decide +kernel
theorem dX11_pages_77 : decode cX11_pages 77 = .ok (.getfield 7, 3) := by decide +kernel
theorem dX11_pages_80 : decode cX11_pages 80 = .ok (.iload_n 2, 1) := by decide +kernel
theorem dX11_pages_81 : decode cX11_pages 81 = .ok (.iconst 4, 1) := by decide +kernel
theorem dX11_pages_82 : decode cX11_pages 82 = .ok (.iadd, 1) := by decide +kernel
theorem dX11_pages_83 : decode cX11_pages 83 = .ok (.iload 4, 2) := by decide +kernel
theorem dX11_pages_85 : decode cX11_pages 85 = .ok (.ifCond .eq 7, 3) := by decide +kernel
theorem dX11_pages_88 : decode cX11_pages 88 = .ok (.iconst 0, 1) := by decide +kernel
theorem dX11_pages_89 : decode cX11_pages 89 = .ok (.goto 6, 3) := by decide +kernel
theorem dX11_pages_92 : decode cX11_pages 92 = .ok (.iload_n 3, 1) := by decide +kernel
theorem dX11_pages_93 : decode cX11_pages 93 = .ok (.iconst 1, 1) := by decide +kernel
theorem dX11_pages_94 : decode cX11_pages 94 = .ok (.iadd, 1) := by decide +kernel
theorem dX11_pages_95 : decode cX11_pages 95 = .ok (.iastore, 1) := by decide +kernel
theorem dX11_pages_96 : decode cX11_pages 96 = .ok (.aload_n 0, 1) := by decide +kernel
theorem dX11_pages_97 : decode cX11_pages 97 = .ok (.getfield 7, 3) := by decide +kernel
theorem dX11_pages_100 : decode cX11_pages 100 = .ok (.iload_n 2, 1) := by decide +kernel
theorem dX11_pages_101 : decode cX11_pages 101 = .ok (.iconst 5, 1) := by decide +kernel
theorem dX11_pages_102 : decode cX11_pages 102 = .ok (.iadd, 1) := by decide +kernel
theorem dX11_pages_103 : decode cX11_pages 103 = .ok (.iconst 0, 1) := by decide +kernel
theorem dX11_pages_104 : decode cX11_pages 104 = .ok (.iastore, 1) := by decide +kernel
theorem dX11_pages_105 : decode cX11_pages 105 = .ok (.aload_n 0, 1) := by decide +kernel
theorem dX11_pages_106 : decode cX11_pages 106 = .ok (.getfield 7, 3) := by decide +kernel
theorem dX11_pages_109 : decode cX11_pages 109 = .ok (.iload_n 2, 1) := by decide +kernel
theorem dX11_pages_110 : decode cX11_pages 110 = .ok (.bipush 11, 2) := by decide +kernel
theorem dX11_pages_112 : decode cX11_pages 112 = .ok (.iadd, 1) := by decide +kernel
theorem dX11_pages_113 : decode cX11_pages 113 = .ok (.aload_n 0, 1) := by decide +kernel
theorem dX11_pages_114 : decode cX11_pages 114 = .ok (.aload_n 0, 1) := by decide +kernel
theorem dX11_pages_115 : decode cX11_pages 115 = .ok (.getfield 7, 3) := by decide +kernel
theorem dX11_pages_118 : decode cX11_pages 118 = .ok (.iconst 2, 1) := by decide +kernel
theorem dX11_pages_119 : decode cX11_pages 119 = .ok (.iaload, 1) := by decide +kernel
theorem dX11_pages_120 : decode cX11_pages 120 = .ok (.invokevirtual 51, 3) := by decide +kernel
theorem dX11_pages_123 : decode cX11_pages 123 = .ok (.iastore, 1) := by decide +kernel
theorem dX11_pages_124 : decode cX11_pages 124 = .ok (.iload 4, 2) := by decide +kernel
theorem dX11_pages_126 : decode cX11_pages 126 = .ok (.ifCond .ne 55, 3) := by decide +kernel
theorem dX11_pages_129 : decode cX11_pages 129 = .ok (.aload_n 0, 1) := by decide +kernel
theorem dX11_pages_130 : decode cX11_pages 130 = .ok (.getfield 7, 3) := by decide +kernel
theorem dX11_pages_133 : decode cX11_pages 133 = .ok (.iload_n 2, 1) := by decide +kernel
theorem dX11_pages_134 : decode cX11_pages 134 = .ok (.bipush 10, 2) := by decide +kernel
theorem dX11_pages_136 : decode cX11_pages 136 = .ok (.iadd, 1) := by decide +kernel
theorem dX11_pages_137 : decode cX11_pages 137 = .ok (.aload_n 0, 1) := by decide +kernel
theorem dX11_pages_138 : decode cX11_pages 138 = .ok (.getfield 7, 3) := by decide +kernel
theorem dX11_pages_141 : decode cX11_pages 141 = .ok (.iconst 2, 1) := by decide +kernel
theorem dX11_pages_142 : decode cX11_pages 142 = .ok (.iaload, 1) := by decide +kernel
theorem dX11_pages_143 : decode cX11_pages 143 = .ok (.iastore, 1) := by decide +kernel
theorem dX11_pages_144 : decode cX11_pages 144 = .ok (.aload_n 0, 1) := by decide +kernel
theorem dX11_pages_145 : decode cX11_pages 145 = .ok (.getfield 7, 3) := by decide +kernel
theorem dX11_pages_148 : decode cX11_pages 148 = .ok (.iload_n 2, 1) := by decide +kernel
theorem dX11_pages_149 : decode cX11_pages 149 = .ok (.bipush 14, 2) := by decide +kernel
theorem dX11_pages_151 : decode cX11_pages 151 = .ok (.iadd, 1) := by decide +kernel
theorem dX11_pages_152 : decode cX11_pages 152 = .ok (.iconst 1, 1) := by decide +kernel
theorem dX11_pages_153 : decode cX11_pages 153 = .ok (.iastore, 1) := by decide +kernel
theorem dX11_pages_154 : decode cX11_pages 154 = .ok (.aload_n 0, 1) := by decide +kernel
theorem dX11_pages_155 : decode cX11_pages 155 = .ok (.getfield 7, 3) := by decide +kernel
theorem dX11_pages_158 : decode cX11_pages 158 = .ok (.iconst 5, 1) := by decide +kernel
theorem dX11_pages_159 : decode cX11_pages 159 = .ok (.dup2, 1) := by decide +kernel
theorem dX11_pages_160 : decode cX11_pages 160 = .ok (.iaload, 1) := by decide +kernel
theorem dX11_pages_161 : decode cX11_pages 161 = .ok (.iconst 1, 1) := by decide +kernel
theorem dX11_pages_162 : decode cX11_pages 162 = .ok (.iadd, 1) := by decide +kernel
theorem dX11_pages_163 : decode cX11_pages 163 = .ok (.iastore, 1) := by decide +kernel
theorem dX11_pages_164 : decode cX11_pages 164 = .ok (.aload_n 0, 1) := by decide +kernel
theorem dX11_pages_165 : decode cX11_pages 165 = .ok (.getfield 7, 3) := by decide +kernel
theorem dX11_pages_168 : decode cX11_pages 168 = .ok (.bipush 16, 2) := by decide +kernel
theorem dX11_pages_170 : decode cX11_pages 170 = .ok (.iconst 5, 1) := by decide +kernel
theorem dX11_pages_171 : decode cX11_pages 171 = .ok (.iload_n 3, 1) := by decide +kernel
theorem dX11_pages_172 : decode cX11_pages 172 = .ok (.imul, 1) := by decide +kernel
theorem dX11_pages_173 : decode cX11_pages 173 = .ok (.iadd, 1) := by decide +kernel
theorem dX11_pages_174 : decode cX11_pages 174 = .ok (.iconst 3, 1) := by decide +kernel
theorem dX11_pages_175 : decode cX11_pages 175 = .ok (.iadd, 1) := by decide +kernel
theorem dX11_pages_176 : decode cX11_pages 176 = .ok (.dup2, 1) := by decide +kernel
theorem dX11_pages_177 : decode cX11_pages 177 = .ok (.iaload, 1) := by decide +kernel
theorem dX11_pages_178 : decode cX11_pages 178 = .ok (.iconst 1, 1) := by decide +kernel
theorem dX11_pages_179 : decode cX11_pages 179 = .ok (.iadd, 1) := by decide +kernel
theorem dX11_pages_180 : decode cX11_pages 180 = .ok (.iastore, 1) := by decide +kernel
theorem dX11_pages_181 : decode cX11_pages 181 = .ok (.return_, 1) := by decide +kernel
theorem dX11_minuteOf_0 : decode cX11_minuteOf 0 = .ok (.iload_n 1, 1) := by decide +kernel
theorem dX11_minuteOf_1 : decode cX11_minuteOf 1 = .ok (.invokestatic 36, 3) := by decide +kernel
theorem dX11_minuteOf_4 : decode cX11_minuteOf 4 = .ok (.istore_n 2, 1) := by decide +kernel
theorem dX11_minuteOf_5 : decode cX11_minuteOf 5 = .ok (.aload_n 0, 1) := by decide +kernel
theorem dX11_minuteOf_6 : decode cX11_minuteOf 6 = .ok (.getfield 7, 3) := by decide +kernel
theorem dX11_minuteOf_9 : decode cX11_minuteOf 9 = .ok (.iload_n 2, 1) := by decide +kernel
theorem dX11_minuteOf_10 : decode cX11_minuteOf 10 = .ok (.iconst 4, 1) := by decide +kernel
theorem dX11_minuteOf_11 : decode cX11_minuteOf 11 = .ok (.iadd, 1) := by decide +kernel
theorem dX11_minuteOf_12 : decode cX11_minuteOf 12 = .ok (.iaload, 1) := by decide +kernel
theorem dX11_minuteOf_13 : decode cX11_minuteOf 13 = .ok (.ifCond .le 7, 3) := by decide +kernel
theorem dX11_minuteOf_16 : decode cX11_minuteOf 16 = .ok (.iconst 1, 1) := by decide +kernel
theorem dX11_minuteOf_17 : decode cX11_minuteOf 17 = .ok (.goto 4, 3) := by decide +kernel
theorem dX11_minuteOf_20 : decode cX11_minuteOf 20 = .ok (.iconst 0, 1) := by decide +kernel
theorem dX11_minuteOf_21 : decode cX11_minuteOf 21 = .ok (.istore_n 3, 1) := by decide +kernel
theorem dX11_minuteOf_22 : decode cX11_minuteOf 22 = .ok (.aload_n 0, 1) := by decide +kernel
theorem dX11_minuteOf_23 : decode cX11_minuteOf 23 = .ok (.aload_n 0, 1) := by decide +kernel
theorem dX11_minuteOf_24 : decode cX11_minuteOf 24 = .ok (.getfield 7, 3) := by decide +kernel
theorem dX11_minuteOf_27 : decode cX11_minuteOf 27 = .ok (.iconst 2, 1) := by decide +kernel
theorem dX11_minuteOf_28 : decode cX11_minuteOf 28 = .ok (.iaload, 1) := by decide +kernel
theorem dX11_minuteOf_29 : decode cX11_minuteOf 29 = .ok (.invokevirtual 51, 3) := by decide +kernel
theorem dX11_minuteOf_32 : decode cX11_minuteOf 32 = .ok (.istore 4, 2) := by decide +kernel
theorem dX11_minuteOf_34 : decode cX11_minuteOf 34 = .ok (.aload_n 0, 1) := by decide +kernel
theorem dX11_minuteOf_35 : decode cX11_minuteOf 35 = .ok (.getfield 7, 3) := by decide +kernel
theorem dX11_minuteOf_38 : decode cX11_minuteOf 38 = .ok (.iload_n 2, 1) := by decide +kernel
theorem dX11_minuteOf_39 : decode cX11_minuteOf 39 = .ok (.bipush 9, 2) := by decide +kernel
theorem dX11_minuteOf_41 : decode cX11_minuteOf 41 = .ok (.iadd, 1) := by decide +kernel
theorem dX11_minuteOf_42 : decode cX11_minuteOf 42 = .ok (.dup2, 1) := by decide +kernel
theorem dX11_minuteOf_43 : decode cX11_minuteOf 43 = .ok (.iaload, 1) := by decide +kernel
theorem dX11_minuteOf_44 : decode cX11_minuteOf 44 = .ok (.iload_n 3, 1) := by decide +kernel
theorem dX11_minuteOf_45 : decode cX11_minuteOf 45 = .ok (.ifCond .eq 7, 3) := by decide +kernel
theorem dX11_minuteOf_48 : decode cX11_minuteOf 48 = .ok (.iconst 0, 1) := by decide +kernel
theorem dX11_minuteOf_49 : decode cX11_minuteOf 49 = .ok (.goto 4, 3) := by decide +kernel
theorem dX11_minuteOf_52 : decode cX11_minuteOf 52 = .ok (.iconst 1, 1) := by decide +kernel
theorem dX11_minuteOf_53 : decode cX11_minuteOf 53 = .ok (.iadd, 1) := by decide +kernel
theorem dX11_minuteOf_54 : decode cX11_minuteOf 54 = .ok (.iastore, 1) := by decide +kernel
theorem dX11_minuteOf_55 : decode cX11_minuteOf 55 = .ok (.aload_n 0, 1) := by decide +kernel
theorem dX11_minuteOf_56 : decode cX11_minuteOf 56 = .ok (.getfield 7, 3) := by decide +kernel
theorem dX11_minuteOf_59 : decode cX11_minuteOf 59 = .ok (.bipush 9, 2) := by decide +kernel
theorem dX11_minuteOf_61 : decode cX11_minuteOf 61 = .ok (.dup2, 1) := by decide +kernel
theorem dX11_minuteOf_62 : decode cX11_minuteOf 62 = .ok (.iaload, 1) := by decide +kernel
theorem dX11_minuteOf_63 : decode cX11_minuteOf 63 = .ok (.iload_n 3, 1) := by decide +kernel
theorem dX11_minuteOf_64 : decode cX11_minuteOf 64 = .ok (.ifCond .eq 7, 3) := by decide +kernel
theorem dX11_minuteOf_67 : decode cX11_minuteOf 67 = .ok (.iconst 0, 1) := by decide +kernel
theorem dX11_minuteOf_68 : decode cX11_minuteOf 68 = .ok (.goto 4, 3) := by decide +kernel
theorem dX11_minuteOf_71 : decode cX11_minuteOf 71 = .ok (.iconst 1, 1) := by decide +kernel
theorem dX11_minuteOf_72 : decode cX11_minuteOf 72 = .ok (.iadd, 1) := by decide +kernel
theorem dX11_minuteOf_73 : decode cX11_minuteOf 73 = .ok (.iastore, 1) := by decide +kernel
theorem dX11_minuteOf_74 : decode cX11_minuteOf 74 = .ok (.iload_n 3, 1) := by decide +kernel
theorem dX11_minuteOf_75 : decode cX11_minuteOf 75 = .ok (.ifCond .eq 63, 3) := by decide +kernel
theorem dX11_minuteOf_78 : decode cX11_minuteOf 78 = .ok (.iload 4, 2) := by decide +kernel
theorem dX11_minuteOf_80 : decode cX11_minuteOf 80 = .ok (.ifCond .lt 17, 3) := by decide +kernel
theorem dX11_minuteOf_83 : decode cX11_minuteOf 83 = .ok (.iload 4, 2) := by decide +kernel
theorem dX11_minuteOf_85 : decode cX11_minuteOf 85 = .ok (.aload_n 0, 1) := by decide +kernel
theorem dX11_minuteOf_86 : decode cX11_minuteOf 86 = .ok (.getfield 7, 3) := by decide +kernel
theorem dX11_minuteOf_89 : decode cX11_minuteOf 89 = .ok (.iload_n 2, 1) := by decide +kernel
theorem dX11_minuteOf_90 : decode cX11_minuteOf 90 = .ok (.bipush 11, 2) := by decide +kernel
theorem dX11_minuteOf_92 : decode cX11_minuteOf 92 = .ok (.iadd, 1) := by decide +kernel
theorem dX11_minuteOf_93 : decode cX11_minuteOf 93 = .ok (.iaload, 1) := by decide +kernel
theorem dX11_minuteOf_94 : decode cX11_minuteOf 94 = .ok (.if_icmp .eq 44, 3) := by decide +kernel
theorem dX11_minuteOf_97 : decode cX11_minuteOf 97 = .ok (.aload_n 0, 1) := by decide +kernel
theorem dX11_minuteOf_98 : decode cX11_minuteOf 98 = .ok (.getfield 7, 3) := by decide +kernel
theorem dX11_minuteOf_101 : decode cX11_minuteOf 101 = .ok (.iload_n 2, 1) := by decide +kernel
theorem dX11_minuteOf_102 : decode cX11_minuteOf 102 = .ok (.iconst 3, 1) := by decide +kernel
theorem dX11_minuteOf_103 : decode cX11_minuteOf 103 = .ok (.iadd, 1) := by decide +kernel
theorem dX11_minuteOf_104 : decode cX11_minuteOf 104 = .ok (.iconst 0, 1) := by decide +kernel
theorem dX11_minuteOf_105 : decode cX11_minuteOf 105 = .ok (.iastore, 1) := by decide +kernel
theorem dX11_minuteOf_106 : decode cX11_minuteOf 106 = .ok (.aload_n 0, 1) := by decide +kernel
theorem dX11_minuteOf_107 : decode cX11_minuteOf 107 = .ok (.getfield 7, 3) := by decide +kernel
theorem dX11_minuteOf_110 : decode cX11_minuteOf 110 = .ok (.iload_n 2, 1) := by decide +kernel
theorem dX11_minuteOf_111 : decode cX11_minuteOf 111 = .ok (.bipush 12, 2) := by decide +kernel
theorem dX11_minuteOf_113 : decode cX11_minuteOf 113 = .ok (.iadd, 1) := by decide +kernel
theorem dX11_minuteOf_114 : decode cX11_minuteOf 114 = .ok (.dup2, 1) := by decide +kernel
theorem dX11_minuteOf_115 : decode cX11_minuteOf 115 = .ok (.iaload, 1) := by decide +kernel
theorem dX11_minuteOf_116 : decode cX11_minuteOf 116 = .ok (.iconst 1, 1) := by decide +kernel
theorem dX11_minuteOf_117 : decode cX11_minuteOf 117 = .ok (.iadd, 1) := by decide +kernel
theorem dX11_minuteOf_118 : decode cX11_minuteOf 118 = .ok (.iastore, 1) := by decide +kernel
theorem dX11_minuteOf_119 : decode cX11_minuteOf 119 = .ok (.aload_n 0, 1) := by decide +kernel
theorem dX11_minuteOf_120 : decode cX11_minuteOf 120 = .ok (.getfield 7, 3) := by decide +kernel
theorem dX11_minuteOf_123 : decode cX11_minuteOf 123 = .ok (.bipush 7, 2) := by decide +kernel
theorem dX11_minuteOf_125 : decode cX11_minuteOf 125 = .ok (.dup2, 1) := by decide +kernel
theorem dX11_minuteOf_126 : decode cX11_minuteOf 126 = .ok (.iaload, 1) := by decide +kernel
theorem dX11_minuteOf_127 : decode cX11_minuteOf 127 = .ok (.iconst 1, 1) := by decide +kernel
theorem dX11_minuteOf_128 : decode cX11_minuteOf 128 = .ok (.iadd, 1) := by decide +kernel
theorem dX11_minuteOf_129 : decode cX11_minuteOf 129 = .ok (.iastore, 1) := by decide +kernel
theorem dX11_minuteOf_130 : decode cX11_minuteOf 130 = .ok (.aload_n 0, 1) := by decide +kernel
theorem dX11_minuteOf_131 : decode cX11_minuteOf 131 = .ok (.iload_n 1, 1) := by decide +kernel
theorem dX11_minuteOf_132 : decode cX11_minuteOf 132 = .ok (.invokevirtual 66, 3) := by decide +kernel
theorem dX11_minuteOf_135 : decode cX11_minuteOf 135 = .ok (.goto 93, 3) := by decide +kernel
theorem dX11_minuteOf_138 : decode cX11_minuteOf 138 = .ok (.iload_n 3, 1) := by decide +kernel
theorem dX11_minuteOf_139 : decode cX11_minuteOf 139 = .ok (.ifCond .ne 11, 3) := by decide +kernel
theorem dX11_minuteOf_142 : decode cX11_minuteOf 142 = .ok (.aload_n 0, 1) := by decide +kernel
theorem dX11_minuteOf_143 : decode cX11_minuteOf 143 = .ok (.iload_n 1, 1) := by decide +kernel
theorem dX11_minuteOf_144 : decode cX11_minuteOf 144 = .ok (.invokevirtual 66, 3) := by decide +kernel
theorem dX11_minuteOf_147 : decode cX11_minuteOf 147 = .ok (.goto 81, 3) := by decide +kernel
theorem dX11_minuteOf_150 : decode cX11_minuteOf 150 = .ok (.aload_n 0, 1) := by decide +kernel
theorem dX11_minuteOf_151 : decode cX11_minuteOf 151 = .ok (.getfield 7, 3) := by decide +kernel
theorem dX11_minuteOf_154 : decode cX11_minuteOf 154 = .ok (.iload_n 2, 1) := by decide +kernel
theorem dX11_minuteOf_155 : decode cX11_minuteOf 155 = .ok (.iconst 5, 1) := by decide +kernel
theorem dX11_minuteOf_156 : decode cX11_minuteOf 156 = .ok (.iadd, 1) := by decide +kernel
theorem dX11_minuteOf_157 : decode cX11_minuteOf 157 = .ok (.iaload, 1) := by decide +kernel
theorem dX11_minuteOf_158 : decode cX11_minuteOf 158 = .ok (.ifCond .ne 70, 3) := by decide +kernel
theorem dX11_minuteOf_161 : decode cX11_minuteOf 161 = .ok (.aload_n 0, 1) := by decide +kernel
theorem dX11_minuteOf_162 : decode cX11_minuteOf 162 = .ok (.getfield 7, 3) := by decide +kernel
theorem dX11_minuteOf_165 : decode cX11_minuteOf 165 = .ok (.iconst 2, 1) := by decide +kernel
theorem dX11_minuteOf_166 : decode cX11_minuteOf 166 = .ok (.iaload, 1) := by decide +kernel
theorem dX11_minuteOf_167 : decode cX11_minuteOf 167 = .ok (.aload_n 0, 1) := by decide +kernel
theorem dX11_minuteOf_168 : decode cX11_minuteOf 168 = .ok (.getfield 7, 3) := by decide +kernel
theorem dX11_minuteOf_171 : decode cX11_minuteOf 171 = .ok (.iload_n 2, 1) := by decide +kernel
theorem dX11_minuteOf_172 : decode cX11_minuteOf 172 = .ok (.bipush 10, 2) := by decide +kernel
theorem dX11_minuteOf_174 : decode cX11_minuteOf 174 = .ok (.iadd, 1) := by decide +kernel
theorem dX11_minuteOf_175 : decode cX11_minuteOf 175 = .ok (.iaload, 1) := by decide +kernel
theorem dX11_minuteOf_176 : decode cX11_minuteOf 176 = .ok (.isub, 1) := by decide +kernel
theorem dX11_minuteOf_177 : decode cX11_minuteOf 177 = .ok (.aload_n 0, 1) := by decide +kernel
theorem dX11_minuteOf_178 : decode cX11_minuteOf 178 = .ok (.getfield 7, 3) := by decide +kernel
theorem dX11_minuteOf_181 : decode cX11_minuteOf 181 = .ok (.bipush 13, 2) := by decide +kernel
theorem dX11_minuteOf_183 : decode cX11_minuteOf 183 = .ok (.iaload, 1) := by decide +kernel
theorem dX11_minuteOf_184 : decode cX11_minuteOf 184 = .ok (.if_icmp .lt 44, 3) := by decide +kernel
theorem dX11_minuteOf_187 : decode cX11_minuteOf 187 = .ok (.aload_n 0, 1) := by decide +kernel
theorem dX11_minuteOf_188 : decode cX11_minuteOf 188 = .ok (.getfield 7, 3) := by decide +kernel
theorem dX11_minuteOf_191 : decode cX11_minuteOf 191 = .ok (.iload_n 2, 1) := by decide +kernel
theorem dX11_minuteOf_192 : decode cX11_minuteOf 192 = .ok (.iconst 3, 1) := by decide +kernel
theorem dX11_minuteOf_193 : decode cX11_minuteOf 193 = .ok (.iadd, 1) := by decide +kernel
theorem dX11_minuteOf_194 : decode cX11_minuteOf 194 = .ok (.dup2, 1) := by decide +kernel
theorem dX11_minuteOf_195 : decode cX11_minuteOf 195 = .ok (.iaload, 1) := by decide +kernel
theorem dX11_minuteOf_196 : decode cX11_minuteOf 196 = .ok (.iconst 1, 1) := by decide +kernel
theorem dX11_minuteOf_197 : decode cX11_minuteOf 197 = .ok (.iadd, 1) := by decide +kernel
theorem dX11_minuteOf_198 : decode cX11_minuteOf 198 = .ok (.iastore, 1) := by decide +kernel
theorem dX11_minuteOf_199 : decode cX11_minuteOf 199 = .ok (.aload_n 0, 1) := by decide +kernel
theorem dX11_minuteOf_200 : decode cX11_minuteOf 200 = .ok (.getfield 7, 3) := by decide +kernel
theorem dX11_minuteOf_203 : decode cX11_minuteOf 203 = .ok (.iload_n 2, 1) := by decide +kernel
theorem dX11_minuteOf_204 : decode cX11_minuteOf 204 = .ok (.bipush 13, 2) := by decide +kernel
theorem dX11_minuteOf_206 : decode cX11_minuteOf 206 = .ok (.iadd, 1) := by decide +kernel
theorem dX11_minuteOf_207 : decode cX11_minuteOf 207 = .ok (.dup2, 1) := by decide +kernel
theorem dX11_minuteOf_208 : decode cX11_minuteOf 208 = .ok (.iaload, 1) := by decide +kernel
theorem dX11_minuteOf_209 : decode cX11_minuteOf 209 = .ok (.iconst 1, 1) := by decide +kernel
theorem dX11_minuteOf_210 : decode cX11_minuteOf 210 = .ok (.iadd, 1) := by decide +kernel
theorem dX11_minuteOf_211 : decode cX11_minuteOf 211 = .ok (.iastore, 1) := by decide +kernel
theorem dX11_minuteOf_212 : decode cX11_minuteOf 212 = .ok (.aload_n 0, 1) := by decide +kernel
theorem dX11_minuteOf_213 : decode cX11_minuteOf 213 = .ok (.getfield 7, 3) := by decide +kernel
theorem dX11_minuteOf_216 : decode cX11_minuteOf 216 = .ok (.bipush 8, 2) := by decide +kernel
theorem dX11_minuteOf_218 : decode cX11_minuteOf 218 = .ok (.dup2, 1) := by decide +kernel
theorem dX11_minuteOf_219 : decode cX11_minuteOf 219 = .ok (.iaload, 1) := by decide +kernel
theorem dX11_minuteOf_220 : decode cX11_minuteOf 220 = .ok (.iconst 1, 1) := by decide +kernel
theorem dX11_minuteOf_221 : decode cX11_minuteOf 221 = .ok (.iadd, 1) := by decide +kernel
theorem dX11_minuteOf_222 : decode cX11_minuteOf 222 = .ok (.iastore, 1) := by decide +kernel
theorem dX11_minuteOf_223 : decode cX11_minuteOf 223 = .ok (.aload_n 0, 1) := by decide +kernel
theorem dX11_minuteOf_224 : decode cX11_minuteOf 224 = .ok (.iload_n 1, 1) := by decide +kernel
theorem dX11_minuteOf_225 : decode cX11_minuteOf 225 = .ok (.invokevirtual 66, 3) := by decide +kernel
theorem dX11_minuteOf_228 : decode cX11_minuteOf 228 = .ok (.return_, 1) := by decide +kernel
theorem dX11_minute_0 : decode cX11_minute 0 = .ok (.aload_n 0, 1) := by decide +kernel
theorem dX11_minute_1 : decode cX11_minute 1 = .ok (.getfield 7, 3) := by decide +kernel
theorem dX11_minute_4 : decode cX11_minute 4 = .ok (.iconst 2, 1) := by decide +kernel
theorem dX11_minute_5 : decode cX11_minute 5 = .ok (.dup2, 1) := by decide +kernel
theorem dX11_minute_6 : decode cX11_minute 6 = .ok (.iaload, 1) := by decide +kernel
theorem dX11_minute_7 : decode cX11_minute 7 = .ok (.iconst 1, 1) := by decide +kernel
theorem dX11_minute_8 : decode cX11_minute 8 = .ok (.iadd, 1) := by decide +kernel
theorem dX11_minute_9 : decode cX11_minute 9 = .ok (.iastore, 1) := by decide +kernel
theorem dX11_minute_10 : decode cX11_minute 10 = .ok (.iconst 0, 1) := by decide +kernel
theorem dX11_minute_11 : decode cX11_minute 11 = .ok (.istore_n 1, 1) := by decide +kernel
theorem dX11_minute_12 : decode cX11_minute 12 = .ok (.iload_n 1, 1) := by decide +kernel
theorem dX11_minute_13 : decode cX11_minute 13 = .ok (.bipush 8, 2) := by decide +kernel
theorem dX11_minute_15 : decode cX11_minute 15 = .ok (.if_icmp .ge 22, 3) := by decide +kernel
theorem dX11_minute_18 : decode cX11_minute 18 = .ok (.aload_n 0, 1) := by decide +kernel
theorem dX11_minute_19 : decode cX11_minute 19 = .ok (.iload_n 1, 1) := by decide +kernel
theorem dX11_minute_20 : decode cX11_minute 20 = .ok (.invokevirtual 70, 3) := by decide +kernel
theorem dX11_minute_23 : decode cX11_minute 23 = .ok (.ifCond .eq 8, 3) := by decide +kernel
theorem dX11_minute_26 : decode cX11_minute 26 = .ok (.aload_n 0, 1) := by decide +kernel
theorem dX11_minute_27 : decode cX11_minute 27 = .ok (.iload_n 1, 1) := by decide +kernel
theorem dX11_minute_28 : decode cX11_minute 28 = .ok (.invokevirtual 74, 3) := by decide +kernel
theorem dX11_minute_31 : decode cX11_minute 31 = .ok (.iinc 1 1, 3) := by decide +kernel
theorem dX11_minute_34 : decode cX11_minute 34 = .ok (.goto (-22), 3) := by decide +kernel
theorem dX11_minute_37 : decode cX11_minute 37 = .ok (.return_, 1) := by decide +kernel
theorem dX11_comes_0 : decode cX11_comes 0 = .ok (.aload_n 0, 1) := by decide +kernel
theorem dX11_comes_1 : decode cX11_comes 1 = .ok (.getfield 7, 3) := by decide +kernel
theorem dX11_comes_4 : decode cX11_comes 4 = .ok (.iconst 0, 1) := by decide +kernel
theorem dX11_comes_5 : decode cX11_comes 5 = .ok (.iaload, 1) := by decide +kernel
theorem dX11_comes_6 : decode cX11_comes 6 = .ok (.bipush 8, 2) := by decide +kernel
theorem dX11_comes_8 : decode cX11_comes 8 = .ok (.if_icmp .ne 6, 3) := by decide +kernel
theorem dX11_comes_11 : decode cX11_comes 11 = .ok (.bipush (-3), 2) := by decide +kernel
theorem dX11_comes_13 : decode cX11_comes 13 = .ok (.ireturn, 1) := by decide +kernel
theorem dX11_comes_14 : decode cX11_comes 14 = .ok (.aload_n 0, 1) := by decide +kernel
theorem dX11_comes_15 : decode cX11_comes 15 = .ok (.getfield 7, 3) := by decide +kernel
theorem dX11_comes_18 : decode cX11_comes 18 = .ok (.iconst 0, 1) := by decide +kernel
theorem dX11_comes_19 : decode cX11_comes 19 = .ok (.dup2, 1) := by decide +kernel
theorem dX11_comes_20 : decode cX11_comes 20 = .ok (.iaload, 1) := by decide +kernel
theorem dX11_comes_21 : decode cX11_comes 21 = .ok (.iconst 1, 1) := by decide +kernel
theorem dX11_comes_22 : decode cX11_comes 22 = .ok (.iadd, 1) := by decide +kernel
theorem dX11_comes_23 : decode cX11_comes 23 = .ok (.iastore, 1) := by decide +kernel
theorem dX11_comes_24 : decode cX11_comes 24 = .ok (.aload_n 0, 1) := by decide +kernel
theorem dX11_comes_25 : decode cX11_comes 25 = .ok (.getfield 7, 3) := by decide +kernel
theorem dX11_comes_28 : decode cX11_comes 28 = .ok (.iconst 0, 1) := by decide +kernel
theorem dX11_comes_29 : decode cX11_comes 29 = .ok (.iaload, 1) := by decide +kernel
theorem dX11_comes_30 : decode cX11_comes 30 = .ok (.iconst 1, 1) := by decide +kernel
theorem dX11_comes_31 : decode cX11_comes 31 = .ok (.isub, 1) := by decide +kernel
theorem dX11_comes_32 : decode cX11_comes 32 = .ok (.ireturn, 1) := by decide +kernel
theorem dX11_lies_0 : decode cX11_lies 0 = .ok (.iload_n 1, 1) := by decide +kernel
theorem dX11_lies_1 : decode cX11_lies 1 = .ok (.iconst 0, 1) := by decide +kernel
theorem dX11_lies_2 : decode cX11_lies 2 = .ok (.bipush 23, 2) := by decide +kernel
theorem dX11_lies_4 : decode cX11_lies 4 = .ok (.invokestatic 32, 3) := by decide +kernel
theorem dX11_lies_7 : decode cX11_lies 7 = .ok (.ifCond .eq 28, 3) := by decide +kernel
theorem dX11_lies_10 : decode cX11_lies 10 = .ok (.iload_n 2, 1) := by decide +kernel
theorem dX11_lies_11 : decode cX11_lies 11 = .ok (.iconst 0, 1) := by decide +kernel
theorem dX11_lies_12 : decode cX11_lies 12 = .ok (.bipush 23, 2) := by decide +kernel
theorem dX11_lies_14 : decode cX11_lies 14 = .ok (.invokestatic 32, 3) := by decide +kernel
theorem dX11_lies_17 : decode cX11_lies 17 = .ok (.ifCond .eq 18, 3) := by decide +kernel
theorem dX11_lies_20 : decode cX11_lies 20 = .ok (.iload_n 1, 1) := by decide +kernel
theorem dX11_lies_21 : decode cX11_lies 21 = .ok (.iload_n 2, 1) := by decide +kernel
theorem dX11_lies_22 : decode cX11_lies 22 = .ok (.if_icmp .eq 13, 3) := by decide +kernel
theorem dX11_lies_25 : decode cX11_lies 25 = .ok (.iload_n 3, 1) := by decide +kernel
theorem dX11_lies_26 : decode cX11_lies 26 = .ok (.iconst 1, 1) := by decide +kernel
theorem dX11_lies_27 : decode cX11_lies 27 = .ok (.bipush 24, 2) := by decide +kernel
theorem dX11_lies_29 : decode cX11_lies 29 = .ok (.invokestatic 32, 3) := by decide +kernel
theorem dX11_lies_32 : decode cX11_lies 32 = .ok (.ifCond .ne 5, 3) := by decide +kernel
theorem dX11_lies_35 : decode cX11_lies 35 = .ok (.iconst (-1), 1) := by decide +kernel
theorem dX11_lies_36 : decode cX11_lies 36 = .ok (.ireturn, 1) := by decide +kernel
theorem dX11_lies_37 : decode cX11_lies 37 = .ok (.aload_n 0, 1) := by decide +kernel
theorem dX11_lies_38 : decode cX11_lies 38 = .ok (.getfield 7, 3) := by decide +kernel
theorem dX11_lies_41 : decode cX11_lies 41 = .ok (.iconst 1, 1) := by decide +kernel
theorem dX11_lies_42 : decode cX11_lies 42 = .ok (.iaload, 1) := by decide +kernel
theorem dX11_lies_43 : decode cX11_lies 43 = .ok (.iconst 3, 1) := by decide +kernel
theorem dX11_lies_44 : decode cX11_lies 44 = .ok (.if_icmp .ne 6, 3) := by decide +kernel
theorem dX11_lies_47 : decode cX11_lies 47 = .ok (.bipush (-3), 2) := by decide +kernel
theorem dX11_lies_49 : decode cX11_lies 49 = .ok (.ireturn, 1) := by decide +kernel
theorem dX11_lies_50 : decode cX11_lies 50 = .ok (.bipush 56, 2) := by decide +kernel
theorem dX11_lies_52 : decode cX11_lies 52 = .ok (.bipush 9, 2) := by decide +kernel
theorem dX11_lies_54 : decode cX11_lies 54 = .ok (.aload_n 0, 1) := by decide +kernel
theorem dX11_lies_55 : decode cX11_lies 55 = .ok (.getfield 7, 3) := by decide +kernel
theorem dX11_lies_58 : decode cX11_lies 58 = .ok (.iconst 1, 1) := by decide +kernel
theorem dX11_lies_59 : decode cX11_lies 59 = .ok (.iaload, 1) := by decide +kernel
theorem dX11_lies_60 : decode cX11_lies 60 = .ok (.imul, 1) := by decide +kernel
theorem dX11_lies_61 : decode cX11_lies 61 = .ok (.iadd, 1) := by decide +kernel
theorem dX11_lies_62 : decode cX11_lies 62 = .ok (.istore 4, 2) := by decide +kernel
theorem dX11_lies_64 : decode cX11_lies 64 = .ok (.aload_n 0, 1) := by decide +kernel
theorem dX11_lies_65 : decode cX11_lies 65 = .ok (.getfield 7, 3) := by decide +kernel
theorem dX11_lies_68 : decode cX11_lies 68 = .ok (.iload 4, 2) := by decide +kernel
theorem dX11_lies_70 : decode cX11_lies 70 = .ok (.iconst 0, 1) := by decide +kernel
theorem dX11_lies_71 : decode cX11_lies 71 = .ok (.iadd, 1) := by decide +kernel
theorem dX11_lies_72 : decode cX11_lies 72 = .ok (.iload_n 1, 1) := by decide +kernel
theorem dX11_lies_73 : decode cX11_lies 73 = .ok (.iastore, 1) := by decide +kernel
theorem dX11_lies_74 : decode cX11_lies 74 = .ok (.aload_n 0, 1) := by decide +kernel
theorem dX11_lies_75 : decode cX11_lies 75 = .ok (.getfield 7, 3) := by decide +kernel
theorem dX11_lies_78 : decode cX11_lies 78 = .ok (.iload 4, 2) := by decide +kernel
theorem dX11_lies_80 : decode cX11_lies 80 = .ok (.iconst 1, 1) := by decide +kernel
theorem dX11_lies_81 : decode cX11_lies 81 = .ok (.iadd, 1) := by decide +kernel
theorem dX11_lies_82 : decode cX11_lies 82 = .ok (.iload_n 2, 1) := by decide +kernel
theorem dX11_lies_83 : decode cX11_lies 83 = .ok (.iastore, 1) := by decide +kernel
theorem dX11_lies_84 : decode cX11_lies 84 = .ok (.aload_n 0, 1) := by decide +kernel
theorem dX11_lies_85 : decode cX11_lies 85 = .ok (.getfield 7, 3) := by decide +kernel
theorem dX11_lies_88 : decode cX11_lies 88 = .ok (.iload 4, 2) := by decide +kernel
theorem dX11_lies_90 : decode cX11_lies 90 = .ok (.iconst 2, 1) := by decide +kernel
theorem dX11_lies_91 : decode cX11_lies 91 = .ok (.iadd, 1) := by decide +kernel
theorem dX11_lies_92 : decode cX11_lies 92 = .ok (.iload_n 3, 1) := by decide +kernel
theorem dX11_lies_93 : decode cX11_lies 93 = .ok (.iastore, 1) := by decide +kernel
theorem dX11_lies_94 : decode cX11_lies 94 = .ok (.aload_n 0, 1) := by decide +kernel
theorem dX11_lies_95 : decode cX11_lies 95 = .ok (.getfield 7, 3) := by decide +kernel
theorem dX11_lies_98 : decode cX11_lies 98 = .ok (.iconst 1, 1) := by decide +kernel
theorem dX11_lies_99 : decode cX11_lies 99 = .ok (.dup2, 1) := by decide +kernel
theorem dX11_lies_100 : decode cX11_lies 100 = .ok (.iaload, 1) := by decide +kernel
theorem dX11_lies_101 : decode cX11_lies 101 = .ok (.iconst 1, 1) := by decide +kernel
theorem dX11_lies_102 : decode cX11_lies 102 = .ok (.iadd, 1) := by decide +kernel
theorem dX11_lies_103 : decode cX11_lies 103 = .ok (.iastore, 1) := by decide +kernel
theorem dX11_lies_104 : decode cX11_lies 104 = .ok (.aload_n 0, 1) := by decide +kernel
theorem dX11_lies_105 : decode cX11_lies 105 = .ok (.getfield 7, 3) := by decide +kernel
theorem dX11_lies_108 : decode cX11_lies 108 = .ok (.iconst 1, 1) := by decide +kernel
theorem dX11_lies_109 : decode cX11_lies 109 = .ok (.iaload, 1) := by decide +kernel
theorem dX11_lies_110 : decode cX11_lies 110 = .ok (.iconst 1, 1) := by decide +kernel
theorem dX11_lies_111 : decode cX11_lies 111 = .ok (.isub, 1) := by decide +kernel
theorem dX11_lies_112 : decode cX11_lies 112 = .ok (.ireturn, 1) := by decide +kernel
theorem dX11_placeIn_0 : decode cX11_placeIn 0 = .ok (.iconst (-1), 1) := by decide +kernel
theorem dX11_placeIn_1 : decode cX11_placeIn 1 = .ok (.istore_n 3, 1) := by decide +kernel
theorem dX11_placeIn_2 : decode cX11_placeIn 2 = .ok (.iconst 0, 1) := by decide +kernel
theorem dX11_placeIn_3 : decode cX11_placeIn 3 = .ok (.istore 4, 2) := by decide +kernel
theorem dX11_placeIn_5 : decode cX11_placeIn 5 = .ok (.iload 4, 2) := by decide +kernel
theorem dX11_placeIn_7 : decode cX11_placeIn 7 = .ok (.aload_n 0, 1) := by decide +kernel
theorem dX11_placeIn_8 : decode cX11_placeIn 8 = .ok (.iload_n 1, 1) := by decide +kernel
theorem dX11_placeIn_9 : decode cX11_placeIn 9 = .ok (.iconst 3, 1) := by decide +kernel
theorem dX11_placeIn_10 : decode cX11_placeIn 10 = .ok (.invokevirtual 40, 3) := by decide +kernel
theorem dX11_placeIn_13 : decode cX11_placeIn 13 = .ok (.if_icmp .ge 29, 3) := by decide +kernel
theorem dX11_placeIn_16 : decode cX11_placeIn 16 = .ok (.aload_n 0, 1) := by decide +kernel
theorem dX11_placeIn_17 : decode cX11_placeIn 17 = .ok (.iload_n 1, 1) := by decide +kernel
theorem dX11_placeIn_18 : decode cX11_placeIn 18 = .ok (.iconst 4, 1) := by decide +kernel
theorem dX11_placeIn_19 : decode cX11_placeIn 19 = .ok (.iload 4, 2) := by decide +kernel
theorem dX11_placeIn_21 : decode cX11_placeIn 21 = .ok (.iadd, 1) := by decide +kernel
theorem dX11_placeIn_22 : decode cX11_placeIn 22 = .ok (.invokevirtual 40, 3) := by decide +kernel
theorem dX11_placeIn_25 : decode cX11_placeIn 25 = .ok (.iload_n 2, 1) := by decide +kernel
theorem dX11_placeIn_26 : decode cX11_placeIn 26 = .ok (.if_icmp .ne 8, 3) := by decide +kernel
theorem dX11_placeIn_29 : decode cX11_placeIn 29 = .ok (.iload 4, 2) := by decide +kernel
theorem dX11_placeIn_31 : decode cX11_placeIn 31 = .ok (.goto 4, 3) := by decide +kernel
theorem dX11_placeIn_34 : decode cX11_placeIn 34 = .ok (.iload_n 3, 1) := by decide +kernel
theorem dX11_placeIn_35 : decode cX11_placeIn 35 = .ok (.istore_n 3, 1) := by decide +kernel
theorem dX11_placeIn_36 : decode cX11_placeIn 36 = .ok (.iinc 4 1, 3) := by decide +kernel
theorem dX11_placeIn_39 : decode cX11_placeIn 39 = .ok (.goto (-34), 3) := by decide +kernel
theorem dX11_placeIn_42 : decode cX11_placeIn 42 = .ok (.iload_n 3, 1) := by decide +kernel
theorem dX11_placeIn_43 : decode cX11_placeIn 43 = .ok (.ireturn, 1) := by decide +kernel
theorem dX11_joins_0 : decode cX11_joins 0 = .ok (.aload_n 0, 1) := by decide +kernel
theorem dX11_joins_1 : decode cX11_joins 1 = .ok (.iload_n 1, 1) := by decide +kernel
theorem dX11_joins_2 : decode cX11_joins 2 = .ok (.invokevirtual 77, 3) := by decide +kernel
theorem dX11_joins_5 : decode cX11_joins 5 = .ok (.ifCond .eq 11, 3) := by decide +kernel
theorem dX11_joins_8 : decode cX11_joins 8 = .ok (.aload_n 0, 1) := by decide +kernel
theorem dX11_joins_9 : decode cX11_joins 9 = .ok (.iload_n 2, 1) := by decide +kernel
theorem dX11_joins_10 : decode cX11_joins 10 = .ok (.invokevirtual 80, 3) := by decide +kernel
theorem dX11_joins_13 : decode cX11_joins 13 = .ok (.ifCond .ne 5, 3) := by decide +kernel
theorem dX11_joins_16 : decode cX11_joins 16 = .ok (.iconst (-1), 1) := by decide +kernel
theorem dX11_joins_17 : decode cX11_joins 17 = .ok (.ireturn, 1) := by decide +kernel
theorem dX11_joins_18 : decode cX11_joins 18 = .ok (.aload_n 0, 1) := by decide +kernel
theorem dX11_joins_19 : decode cX11_joins 19 = .ok (.iload_n 1, 1) := by decide +kernel
theorem dX11_joins_20 : decode cX11_joins 20 = .ok (.iload_n 2, 1) := by decide +kernel
theorem dX11_joins_21 : decode cX11_joins 21 = .ok (.invokevirtual 83, 3) := by decide +kernel
theorem dX11_joins_24 : decode cX11_joins 24 = .ok (.ifCond .lt 6, 3) := by decide +kernel
theorem dX11_joins_27 : decode cX11_joins 27 = .ok (.bipush (-2), 2) := by decide +kernel
theorem dX11_joins_29 : decode cX11_joins 29 = .ok (.ireturn, 1) := by decide +kernel
theorem dX11_joins_30 : decode cX11_joins 30 = .ok (.aload_n 0, 1) := by decide +kernel
theorem dX11_joins_31 : decode cX11_joins 31 = .ok (.iload_n 1, 1) := by decide +kernel
theorem dX11_joins_32 : decode cX11_joins 32 = .ok (.iconst 3, 1) := by decide +kernel
theorem dX11_joins_33 : decode cX11_joins 33 = .ok (.invokevirtual 40, 3) := by decide +kernel
theorem dX11_joins_36 : decode cX11_joins 36 = .ok (.istore_n 3, 1) := by decide +kernel
theorem dX11_joins_37 : decode cX11_joins 37 = .ok (.iload_n 3, 1) := by decide +kernel
theorem dX11_joins_38 : decode cX11_joins 38 = .ok (.iconst 5, 1) := by decide +kernel
theorem dX11_joins_39 : decode cX11_joins 39 = .ok (.if_icmp .ne 6, 3) := by decide +kernel
theorem dX11_joins_42 : decode cX11_joins 42 = .ok (.bipush (-3), 2) := by decide +kernel
theorem dX11_joins_44 : decode cX11_joins 44 = .ok (.ireturn, 1) := by decide +kernel
theorem dX11_joins_45 : decode cX11_joins 45 = .ok (.bipush 56, 2) := by decide +kernel
theorem dX11_joins_47 : decode cX11_joins 47 = .ok (.bipush 9, 2) := by decide +kernel
theorem dX11_joins_49 : decode cX11_joins 49 = .ok (.iload_n 1, 1) := by decide +kernel
theorem dX11_joins_50 : decode cX11_joins 50 = .ok (.imul, 1) := by decide +kernel
theorem dX11_joins_51 : decode cX11_joins 51 = .ok (.iadd, 1) := by decide +kernel
theorem dX11_joins_52 : decode cX11_joins 52 = .ok (.istore 4, 2) := by decide +kernel
theorem dX11_joins_54 : decode cX11_joins 54 = .ok (.aload_n 0, 1) := by decide +kernel
theorem dX11_joins_55 : decode cX11_joins 55 = .ok (.getfield 7, 3) := by decide +kernel
theorem dX11_joins_58 : decode cX11_joins 58 = .ok (.iload 4, 2) := by decide +kernel
theorem dX11_joins_60 : decode cX11_joins 60 = .ok (.iconst 4, 1) := by decide +kernel
theorem dX11_joins_61 : decode cX11_joins 61 = .ok (.iadd, 1) := by decide +kernel
theorem dX11_joins_62 : decode cX11_joins 62 = .ok (.iload_n 3, 1) := by decide +kernel
theorem dX11_joins_63 : decode cX11_joins 63 = .ok (.iadd, 1) := by decide +kernel
theorem dX11_joins_64 : decode cX11_joins 64 = .ok (.iload_n 2, 1) := by decide +kernel
theorem dX11_joins_65 : decode cX11_joins 65 = .ok (.iastore, 1) := by decide +kernel
theorem dX11_joins_66 : decode cX11_joins 66 = .ok (.aload_n 0, 1) := by decide +kernel
theorem dX11_joins_67 : decode cX11_joins 67 = .ok (.getfield 7, 3) := by decide +kernel
theorem dX11_joins_70 : decode cX11_joins 70 = .ok (.iload 4, 2) := by decide +kernel
theorem dX11_joins_72 : decode cX11_joins 72 = .ok (.iconst 3, 1) := by decide +kernel
theorem dX11_joins_73 : decode cX11_joins 73 = .ok (.iadd, 1) := by decide +kernel
theorem dX11_joins_74 : decode cX11_joins 74 = .ok (.dup2, 1) := by decide +kernel
theorem dX11_joins_75 : decode cX11_joins 75 = .ok (.iaload, 1) := by decide +kernel
theorem dX11_joins_76 : decode cX11_joins 76 = .ok (.iconst 1, 1) := by decide +kernel
theorem dX11_joins_77 : decode cX11_joins 77 = .ok (.iadd, 1) := by decide +kernel
theorem dX11_joins_78 : decode cX11_joins 78 = .ok (.iastore, 1) := by decide +kernel
theorem dX11_joins_79 : decode cX11_joins 79 = .ok (.iload_n 3, 1) := by decide +kernel
theorem dX11_joins_80 : decode cX11_joins 80 = .ok (.iconst 1, 1) := by decide +kernel
theorem dX11_joins_81 : decode cX11_joins 81 = .ok (.iadd, 1) := by decide +kernel
theorem dX11_joins_82 : decode cX11_joins 82 = .ok (.ireturn, 1) := by decide +kernel
theorem dX11_leaves_0 : decode cX11_leaves 0 = .ok (.aload_n 0, 1) := by decide +kernel
theorem dX11_leaves_1 : decode cX11_leaves 1 = .ok (.iload_n 1, 1) := by decide +kernel
theorem dX11_leaves_2 : decode cX11_leaves 2 = .ok (.invokevirtual 77, 3) := by decide +kernel
theorem dX11_leaves_5 : decode cX11_leaves 5 = .ok (.ifCond .eq 11, 3) := by decide +kernel
theorem dX11_leaves_8 : decode cX11_leaves 8 = .ok (.aload_n 0, 1) := by decide +kernel
theorem dX11_leaves_9 : decode cX11_leaves 9 = .ok (.iload_n 2, 1) := by decide +kernel
theorem dX11_leaves_10 : decode cX11_leaves 10 = .ok (.invokevirtual 80, 3) := by decide +kernel
theorem dX11_leaves_13 : decode cX11_leaves 13 = .ok (.ifCond .ne 5, 3) := by decide +kernel
theorem dX11_leaves_16 : decode cX11_leaves 16 = .ok (.iconst (-1), 1) := by decide +kernel
theorem dX11_leaves_17 : decode cX11_leaves 17 = .ok (.ireturn, 1) := by decide +kernel
theorem dX11_leaves_18 : decode cX11_leaves 18 = .ok (.aload_n 0, 1) := by decide +kernel
theorem dX11_leaves_19 : decode cX11_leaves 19 = .ok (.iload_n 1, 1) := by decide +kernel
theorem dX11_leaves_20 : decode cX11_leaves 20 = .ok (.iload_n 2, 1) := by decide +kernel
theorem dX11_leaves_21 : decode cX11_leaves 21 = .ok (.invokevirtual 83, 3) := by decide +kernel
theorem dX11_leaves_24 : decode cX11_leaves 24 = .ok (.istore_n 3, 1) := by decide +kernel
theorem dX11_leaves_25 : decode cX11_leaves 25 = .ok (.iload_n 3, 1) := by decide +kernel
theorem dX11_leaves_26 : decode cX11_leaves 26 = .ok (.ifCond .ge 6, 3) := by decide +kernel
theorem dX11_leaves_29 : decode cX11_leaves 29 = .ok (.bipush (-2), 2) := by decide +kernel
theorem dX11_leaves_31 : decode cX11_leaves 31 = .ok (.ireturn, 1) := by decide +kernel
theorem dX11_leaves_32 : decode cX11_leaves 32 = .ok (.bipush 56, 2) := by decide +kernel
theorem dX11_leaves_34 : decode cX11_leaves 34 = .ok (.bipush 9, 2) := by decide +kernel
theorem dX11_leaves_36 : decode cX11_leaves 36 = .ok (.iload_n 1, 1) := by decide +kernel
theorem dX11_leaves_37 : decode cX11_leaves 37 = .ok (.imul, 1) := by decide +kernel
theorem dX11_leaves_38 : decode cX11_leaves 38 = .ok (.iadd, 1) := by decide +kernel
theorem dX11_leaves_39 : decode cX11_leaves 39 = .ok (.istore 4, 2) := by decide +kernel
theorem dX11_leaves_41 : decode cX11_leaves 41 = .ok (.aload_n 0, 1) := by decide +kernel
theorem dX11_leaves_42 : decode cX11_leaves 42 = .ok (.getfield 7, 3) := by decide +kernel
theorem dX11_leaves_45 : decode cX11_leaves 45 = .ok (.iload 4, 2) := by decide +kernel
theorem dX11_leaves_47 : decode cX11_leaves 47 = .ok (.iconst 3, 1) := by decide +kernel
theorem dX11_leaves_48 : decode cX11_leaves 48 = .ok (.iadd, 1) := by decide +kernel
theorem dX11_leaves_49 : decode cX11_leaves 49 = .ok (.dup2, 1) := by decide +kernel
theorem dX11_leaves_50 : decode cX11_leaves 50 = .ok (.iaload, 1) := by decide +kernel
theorem dX11_leaves_51 : decode cX11_leaves 51 = .ok (.iconst 1, 1) := by decide +kernel
theorem dX11_leaves_52 : decode cX11_leaves 52 = .ok (.isub, 1) := by decide +kernel
theorem dX11_leaves_53 : decode cX11_leaves 53 = .ok (.iastore, 1) := by decide +kernel
theorem dX11_leaves_54 : decode cX11_leaves 54 = .ok (.iload_n 3, 1) := by decide +kernel
theorem dX11_leaves_55 : decode cX11_leaves 55 = .ok (.istore 5, 2) := by decide +kernel
theorem dX11_leaves_57 : decode cX11_leaves 57 = .ok (.iload 5, 2) := by decide +kernel
theorem dX11_leaves_59 : decode cX11_leaves 59 = .ok (.aload_n 0, 1) := by decide +kernel
theorem dX11_leaves_60 : decode cX11_leaves 60 = .ok (.getfield 7, 3) := by decide +kernel
theorem dX11_leaves_63 : decode cX11_leaves 63 = .ok (.iload 4, 2) := by decide +kernel
theorem dX11_leaves_65 : decode cX11_leaves 65 = .ok (.iconst 3, 1) := by decide +kernel
theorem dX11_leaves_66 : decode cX11_leaves 66 = .ok (.iadd, 1) := by decide +kernel
theorem dX11_leaves_67 : decode cX11_leaves 67 = .ok (.iaload, 1) := by decide +kernel
theorem dX11_leaves_68 : decode cX11_leaves 68 = .ok (.if_icmp .ge 35, 3) := by decide +kernel
theorem dX11_leaves_71 : decode cX11_leaves 71 = .ok (.aload_n 0, 1) := by decide +kernel
theorem dX11_leaves_72 : decode cX11_leaves 72 = .ok (.getfield 7, 3) := by decide +kernel
theorem dX11_leaves_75 : decode cX11_leaves 75 = .ok (.iload 4, 2) := by decide +kernel
theorem dX11_leaves_77 : decode cX11_leaves 77 = .ok (.iconst 4, 1) := by decide +kernel
theorem dX11_leaves_78 : decode cX11_leaves 78 = .ok (.iadd, 1) := by decide +kernel
theorem dX11_leaves_79 : decode cX11_leaves 79 = .ok (.iload 5, 2) := by decide +kernel
theorem dX11_leaves_81 : decode cX11_leaves 81 = .ok (.iadd, 1) := by decide +kernel
theorem dX11_leaves_82 : decode cX11_leaves 82 = .ok (.aload_n 0, 1) := by decide +kernel
theorem dX11_leaves_83 : decode cX11_leaves 83 = .ok (.getfield 7, 3) := by decide +kernel
theorem dX11_leaves_86 : decode cX11_leaves 86 = .ok (.iload 4, 2) := by decide +kernel
theorem dX11_leaves_88 : decode cX11_leaves 88 = .ok (.iconst 4, 1) := by decide +kernel
theorem dX11_leaves_89 : decode cX11_leaves 89 = .ok (.iadd, 1) := by decide +kernel
theorem dX11_leaves_90 : decode cX11_leaves 90 = .ok (.iload 5, 2) := by decide +kernel
theorem dX11_leaves_92 : decode cX11_leaves 92 = .ok (.iadd, 1) := by decide +kernel
theorem dX11_leaves_93 : decode cX11_leaves 93 = .ok (.iconst 1, 1) := by decide +kernel
theorem dX11_leaves_94 : decode cX11_leaves 94 = .ok (.iadd, 1) := by decide +kernel
theorem dX11_leaves_95 : decode cX11_leaves 95 = .ok (.iaload, 1) := by decide +kernel
theorem dX11_leaves_96 : decode cX11_leaves 96 = .ok (.iastore, 1) := by decide +kernel
theorem dX11_leaves_97 : decode cX11_leaves 97 = .ok (.iinc 5 1, 3) := by decide +kernel
theorem dX11_leaves_100 : decode cX11_leaves 100 = .ok (.goto (-43), 3) := by decide +kernel
theorem dX11_leaves_103 : decode cX11_leaves 103 = .ok (.aload_n 0, 1) := by decide +kernel
theorem dX11_leaves_104 : decode cX11_leaves 104 = .ok (.getfield 7, 3) := by decide +kernel
theorem dX11_leaves_107 : decode cX11_leaves 107 = .ok (.iload 4, 2) := by decide +kernel
theorem dX11_leaves_109 : decode cX11_leaves 109 = .ok (.iconst 3, 1) := by decide +kernel
theorem dX11_leaves_110 : decode cX11_leaves 110 = .ok (.iadd, 1) := by decide +kernel
theorem dX11_leaves_111 : decode cX11_leaves 111 = .ok (.iaload, 1) := by decide +kernel
theorem dX11_leaves_112 : decode cX11_leaves 112 = .ok (.ireturn, 1) := by decide +kernel
theorem dX11_rests_0 : decode cX11_rests 0 = .ok (.aload_n 0, 1) := by decide +kernel
theorem dX11_rests_1 : decode cX11_rests 1 = .ok (.iload_n 1, 1) := by decide +kernel
theorem dX11_rests_2 : decode cX11_rests 2 = .ok (.invokevirtual 80, 3) := by decide +kernel
theorem dX11_rests_5 : decode cX11_rests 5 = .ok (.ifCond .eq 23, 3) := by decide +kernel
theorem dX11_rests_8 : decode cX11_rests 8 = .ok (.iload_n 2, 1) := by decide +kernel
theorem dX11_rests_9 : decode cX11_rests 9 = .ok (.iconst 0, 1) := by decide +kernel
theorem dX11_rests_10 : decode cX11_rests 10 = .ok (.bipush 23, 2) := by decide +kernel
theorem dX11_rests_12 : decode cX11_rests 12 = .ok (.invokestatic 32, 3) := by decide +kernel
theorem dX11_rests_15 : decode cX11_rests 15 = .ok (.ifCond .eq 13, 3) := by decide +kernel
theorem dX11_rests_18 : decode cX11_rests 18 = .ok (.iload_n 3, 1) := by decide +kernel
theorem dX11_rests_19 : decode cX11_rests 19 = .ok (.iconst 0, 1) := by decide +kernel
theorem dX11_rests_20 : decode cX11_rests 20 = .ok (.bipush 23, 2) := by decide +kernel
theorem dX11_rests_22 : decode cX11_rests 22 = .ok (.invokestatic 32, 3) := by decide +kernel
theorem dX11_rests_25 : decode cX11_rests 25 = .ok (.ifCond .ne 5, 3) := by decide +kernel
theorem dX11_rests_28 : decode cX11_rests 28 = .ok (.iconst (-1), 1) := by decide +kernel
theorem dX11_rests_29 : decode cX11_rests 29 = .ok (.ireturn, 1) := by decide +kernel
theorem dX11_rests_30 : decode cX11_rests 30 = .ok (.aload_n 0, 1) := by decide +kernel
theorem dX11_rests_31 : decode cX11_rests 31 = .ok (.getfield 7, 3) := by decide +kernel
theorem dX11_rests_34 : decode cX11_rests 34 = .ok (.bipush 16, 2) := by decide +kernel
theorem dX11_rests_36 : decode cX11_rests 36 = .ok (.iconst 5, 1) := by decide +kernel
theorem dX11_rests_37 : decode cX11_rests 37 = .ok (.iload_n 1, 1) := by decide +kernel
theorem dX11_rests_38 : decode cX11_rests 38 = .ok (.imul, 1) := by decide +kernel
theorem dX11_rests_39 : decode cX11_rests 39 = .ok (.iadd, 1) := by decide +kernel
theorem dX11_rests_40 : decode cX11_rests 40 = .ok (.iconst 0, 1) := by decide +kernel
theorem dX11_rests_41 : decode cX11_rests 41 = .ok (.iadd, 1) := by decide +kernel
theorem dX11_rests_42 : decode cX11_rests 42 = .ok (.iload_n 2, 1) := by decide +kernel
theorem dX11_rests_43 : decode cX11_rests 43 = .ok (.iastore, 1) := by decide +kernel
theorem dX11_rests_44 : decode cX11_rests 44 = .ok (.aload_n 0, 1) := by decide +kernel
theorem dX11_rests_45 : decode cX11_rests 45 = .ok (.getfield 7, 3) := by decide +kernel
theorem dX11_rests_48 : decode cX11_rests 48 = .ok (.bipush 16, 2) := by decide +kernel
theorem dX11_rests_50 : decode cX11_rests 50 = .ok (.iconst 5, 1) := by decide +kernel
theorem dX11_rests_51 : decode cX11_rests 51 = .ok (.iload_n 1, 1) := by decide +kernel
theorem dX11_rests_52 : decode cX11_rests 52 = .ok (.imul, 1) := by decide +kernel
theorem dX11_rests_53 : decode cX11_rests 53 = .ok (.iadd, 1) := by decide +kernel
theorem dX11_rests_54 : decode cX11_rests 54 = .ok (.iconst 1, 1) := by decide +kernel
theorem dX11_rests_55 : decode cX11_rests 55 = .ok (.iadd, 1) := by decide +kernel
theorem dX11_rests_56 : decode cX11_rests 56 = .ok (.iload_n 3, 1) := by decide +kernel
theorem dX11_rests_57 : decode cX11_rests 57 = .ok (.iastore, 1) := by decide +kernel
theorem dX11_rests_58 : decode cX11_rests 58 = .ok (.iload_n 3, 1) := by decide +kernel
theorem dX11_rests_59 : decode cX11_rests 59 = .ok (.iload_n 2, 1) := by decide +kernel
theorem dX11_rests_60 : decode cX11_rests 60 = .ok (.isub, 1) := by decide +kernel
theorem dX11_rests_61 : decode cX11_rests 61 = .ok (.istore 4, 2) := by decide +kernel
theorem dX11_rests_63 : decode cX11_rests 63 = .ok (.iload 4, 2) := by decide +kernel
theorem dX11_rests_65 : decode cX11_rests 65 = .ok (.ifCond .ge 11, 3) := by decide +kernel
theorem dX11_rests_68 : decode cX11_rests 68 = .ok (.iload 4, 2) := by decide +kernel
theorem dX11_rests_70 : decode cX11_rests 70 = .ok (.bipush 24, 2) := by decide +kernel
theorem dX11_rests_72 : decode cX11_rests 72 = .ok (.iadd, 1) := by decide +kernel
theorem dX11_rests_73 : decode cX11_rests 73 = .ok (.goto 5, 3) := by decide +kernel
theorem dX11_rests_76 : decode cX11_rests 76 = .ok (.iload 4, 2) := by decide +kernel
theorem dX11_rests_78 : decode cX11_rests 78 = .ok (.ireturn, 1) := by decide +kernel
theorem dX11_ones_0 : decode cX11_ones 0 = .ok (.iconst 0, 1) := by decide +kernel
theorem dX11_ones_1 : decode cX11_ones 1 = .ok (.istore_n 1, 1) := by decide +kernel
theorem dX11_ones_2 : decode cX11_ones 2 = .ok (.iload_n 0, 1) := by decide +kernel
theorem dX11_ones_3 : decode cX11_ones 3 = .ok (.istore_n 2, 1) := by decide +kernel
theorem dX11_ones_4 : decode cX11_ones 4 = .ok (.iload_n 2, 1) := by decide +kernel
theorem dX11_ones_5 : decode cX11_ones 5 = .ok (.ifCond .le 16, 3) := by decide +kernel
theorem dX11_ones_8 : decode cX11_ones 8 = .ok (.iload_n 1, 1) := by decide +kernel
theorem dX11_ones_9 : decode cX11_ones 9 = .ok (.iload_n 2, 1) := by decide +kernel
theorem dX11_ones_10 : decode cX11_ones 10 = .ok (.iconst 2, 1) := by decide +kernel
theorem dX11_ones_11 : decode cX11_ones 11 = .ok (.irem, 1) := by decide +kernel
theorem dX11_ones_12 : decode cX11_ones 12 = .ok (.iadd, 1) := by decide +kernel
theorem dX11_ones_13 : decode cX11_ones 13 = .ok (.istore_n 1, 1) := by decide +kernel
theorem dX11_ones_14 : decode cX11_ones 14 = .ok (.iload_n 2, 1) := by decide +kernel
theorem dX11_ones_15 : decode cX11_ones 15 = .ok (.iconst 2, 1) := by decide +kernel
theorem dX11_ones_16 : decode cX11_ones 16 = .ok (.idiv, 1) := by decide +kernel
theorem dX11_ones_17 : decode cX11_ones 17 = .ok (.istore_n 2, 1) := by decide +kernel
theorem dX11_ones_18 : decode cX11_ones 18 = .ok (.goto (-14), 3) := by decide +kernel
theorem dX11_ones_21 : decode cX11_ones 21 = .ok (.iload_n 1, 1) := by decide +kernel
theorem dX11_ones_22 : decode cX11_ones 22 = .ok (.ireturn, 1) := by decide +kernel
theorem dX11_excepts_0 : decode cX11_excepts 0 = .ok (.aload_n 0, 1) := by decide +kernel
theorem dX11_excepts_1 : decode cX11_excepts 1 = .ok (.iload_n 1, 1) := by decide +kernel
theorem dX11_excepts_2 : decode cX11_excepts 2 = .ok (.invokevirtual 80, 3) := by decide +kernel
theorem dX11_excepts_5 : decode cX11_excepts 5 = .ok (.ifCond .eq 13, 3) := by decide +kernel
theorem dX11_excepts_8 : decode cX11_excepts 8 = .ok (.iload_n 2, 1) := by decide +kernel
theorem dX11_excepts_9 : decode cX11_excepts 9 = .ok (.iconst 0, 1) := by decide +kernel
theorem dX11_excepts_10 : decode cX11_excepts 10 = .ok (.bipush 19, 2) := by decide +kernel
theorem dX11_excepts_12 : decode cX11_excepts 12 = .ok (.invokestatic 32, 3) := by decide +kernel
theorem dX11_excepts_15 : decode cX11_excepts 15 = .ok (.ifCond .ne 5, 3) := by decide +kernel
theorem dX11_excepts_18 : decode cX11_excepts 18 = .ok (.iconst (-1), 1) := by decide +kernel
theorem dX11_excepts_19 : decode cX11_excepts 19 = .ok (.ireturn, 1) := by decide +kernel
theorem dX11_excepts_20 : decode cX11_excepts 20 = .ok (.aload_n 0, 1) := by decide +kernel
theorem dX11_excepts_21 : decode cX11_excepts 21 = .ok (.getfield 7, 3) := by decide +kernel
theorem dX11_excepts_24 : decode cX11_excepts 24 = .ok (.bipush 16, 2) := by decide +kernel
theorem dX11_excepts_26 : decode cX11_excepts 26 = .ok (.iconst 5, 1) := by decide +kernel
theorem dX11_excepts_27 : decode cX11_excepts 27 = .ok (.iload_n 1, 1) := by decide +kernel
theorem dX11_excepts_28 : decode cX11_excepts 28 = .ok (.imul, 1) := by decide +kernel
theorem dX11_excepts_29 : decode cX11_excepts 29 = .ok (.iadd, 1) := by decide +kernel
theorem dX11_excepts_30 : decode cX11_excepts 30 = .ok (.iconst 2, 1) := by decide +kernel
theorem dX11_excepts_31 : decode cX11_excepts 31 = .ok (.iadd, 1) := by decide +kernel
theorem dX11_excepts_32 : decode cX11_excepts 32 = .ok (.dup2, 1) := by decide +kernel
theorem dX11_excepts_33 : decode cX11_excepts 33 = .ok (.iaload, 1) := by decide +kernel
theorem dX11_excepts_34 : decode cX11_excepts 34 = .ok (.iconst 1, 1) := by decide +kernel
theorem dX11_excepts_35 : decode cX11_excepts 35 = .ok (.iload_n 2, 1) := by decide +kernel
theorem dX11_excepts_36 : decode cX11_excepts 36 = .ok (.ishl, 1) := by decide +kernel
theorem dX11_excepts_37 : decode cX11_excepts 37 = .ok (.ixor, 1) := by decide +kernel
theorem dX11_excepts_38 : decode cX11_excepts 38 = .ok (.iastore, 1) := by decide +kernel
theorem dX11_excepts_39 : decode cX11_excepts 39 = .ok (.aload_n 0, 1) := by decide +kernel
theorem dX11_excepts_40 : decode cX11_excepts 40 = .ok (.iload_n 1, 1) := by decide +kernel
theorem dX11_excepts_41 : decode cX11_excepts 41 = .ok (.iconst 2, 1) := by decide +kernel
theorem dX11_excepts_42 : decode cX11_excepts 42 = .ok (.invokevirtual 54, 3) := by decide +kernel
theorem dX11_excepts_45 : decode cX11_excepts 45 = .ok (.invokestatic 86, 3) := by decide +kernel
theorem dX11_excepts_48 : decode cX11_excepts 48 = .ok (.ireturn, 1) := by decide +kernel
theorem dX11_inForce_0 : decode cX11_inForce 0 = .ok (.iconst 0, 1) := by decide +kernel
theorem dX11_inForce_1 : decode cX11_inForce 1 = .ok (.istore_n 1, 1) := by decide +kernel
theorem dX11_inForce_2 : decode cX11_inForce 2 = .ok (.iconst 0, 1) := by decide +kernel
theorem dX11_inForce_3 : decode cX11_inForce 3 = .ok (.istore_n 2, 1) := by decide +kernel
theorem dX11_inForce_4 : decode cX11_inForce 4 = .ok (.iload_n 2, 1) := by decide +kernel
theorem dX11_inForce_5 : decode cX11_inForce 5 = .ok (.aload_n 0, 1) := by decide +kernel
theorem dX11_inForce_6 : decode cX11_inForce 6 = .ok (.getfield 7, 3) := by decide +kernel
theorem dX11_inForce_9 : decode cX11_inForce 9 = .ok (.bipush 15, 2) := by decide +kernel
theorem dX11_inForce_11 : decode cX11_inForce 11 = .ok (.iaload, 1) := by decide +kernel
theorem dX11_inForce_12 : decode cX11_inForce 12 = .ok (.if_icmp .ge 39, 3) := by decide +kernel
theorem dX11_inForce_15 : decode cX11_inForce 15 = .ok (.iload_n 1, 1) := by decide +kernel
theorem dX11_inForce_16 : decode cX11_inForce 16 = .ok (.aload_n 0, 1) := by decide +kernel
theorem dX11_inForce_17 : decode cX11_inForce 17 = .ok (.getfield 7, 3) := by decide +kernel
theorem dX11_inForce_20 : decode cX11_inForce 20 = .ok (.bipush 83, 2) := by decide +kernel
theorem dX11_inForce_22 : decode cX11_inForce 22 = .ok (.iconst 3, 1) := by decide +kernel
theorem dX11_inForce_23 : decode cX11_inForce 23 = .ok (.iload_n 2, 1) := by decide +kernel
theorem dX11_inForce_24 : decode cX11_inForce 24 = .ok (.imul, 1) := by decide +kernel
theorem dX11_inForce_25 : decode cX11_inForce 25 = .ok (.iadd, 1) := by decide +kernel
theorem dX11_inForce_26 : decode cX11_inForce 26 = .ok (.iconst 2, 1) := by decide +kernel
theorem dX11_inForce_27 : decode cX11_inForce 27 = .ok (.iadd, 1) := by decide +kernel
theorem dX11_inForce_28 : decode cX11_inForce 28 = .ok (.iaload, 1) := by decide +kernel
theorem dX11_inForce_29 : decode cX11_inForce 29 = .ok (.aload_n 0, 1) := by decide +kernel
theorem dX11_inForce_30 : decode cX11_inForce 30 = .ok (.getfield 7, 3) := by decide +kernel
theorem dX11_inForce_33 : decode cX11_inForce 33 = .ok (.iconst 2, 1) := by decide +kernel
theorem dX11_inForce_34 : decode cX11_inForce 34 = .ok (.iaload, 1) := by decide +kernel
theorem dX11_inForce_35 : decode cX11_inForce 35 = .ok (.if_icmp .le 7, 3) := by decide +kernel
theorem dX11_inForce_38 : decode cX11_inForce 38 = .ok (.iconst 1, 1) := by decide +kernel
theorem dX11_inForce_39 : decode cX11_inForce 39 = .ok (.goto 4, 3) := by decide +kernel
theorem dX11_inForce_42 : decode cX11_inForce 42 = .ok (.iconst 0, 1) := by decide +kernel
theorem dX11_inForce_43 : decode cX11_inForce 43 = .ok (.iadd, 1) := by decide +kernel
theorem dX11_inForce_44 : decode cX11_inForce 44 = .ok (.istore_n 1, 1) := by decide +kernel
theorem dX11_inForce_45 : decode cX11_inForce 45 = .ok (.iinc 2 1, 3) := by decide +kernel
theorem dX11_inForce_48 : decode cX11_inForce 48 = .ok (.goto (-44), 3) := by decide +kernel
theorem dX11_inForce_51 : decode cX11_inForce 51 = .ok (.iload_n 1, 1) := by decide +kernel
theorem dX11_inForce_52 : decode cX11_inForce 52 = .ok (.ireturn, 1) := by decide +kernel
theorem dX11_clears_0 : decode cX11_clears 0 = .ok (.iconst 0, 1) := by decide +kernel
theorem dX11_clears_1 : decode cX11_clears 1 = .ok (.istore_n 1, 1) := by decide +kernel
theorem dX11_clears_2 : decode cX11_clears 2 = .ok (.iconst 0, 1) := by decide +kernel
theorem dX11_clears_3 : decode cX11_clears 3 = .ok (.istore_n 2, 1) := by decide +kernel
theorem dX11_clears_4 : decode cX11_clears 4 = .ok (.iload_n 2, 1) := by decide +kernel
theorem dX11_clears_5 : decode cX11_clears 5 = .ok (.aload_n 0, 1) := by decide +kernel
theorem dX11_clears_6 : decode cX11_clears 6 = .ok (.getfield 7, 3) := by decide +kernel
theorem dX11_clears_9 : decode cX11_clears 9 = .ok (.bipush 15, 2) := by decide +kernel
theorem dX11_clears_11 : decode cX11_clears 11 = .ok (.iaload, 1) := by decide +kernel
theorem dX11_clears_12 : decode cX11_clears 12 = .ok (.if_icmp .ge 73, 3) := by decide +kernel
theorem dX11_clears_15 : decode cX11_clears 15 = .ok (.aload_n 0, 1) := by decide +kernel
theorem dX11_clears_16 : decode cX11_clears 16 = .ok (.getfield 7, 3) := by decide +kernel
theorem dX11_clears_19 : decode cX11_clears 19 = .ok (.bipush 83, 2) := by decide +kernel
theorem dX11_clears_21 : decode cX11_clears 21 = .ok (.iconst 3, 1) := by decide +kernel
theorem dX11_clears_22 : decode cX11_clears 22 = .ok (.iload_n 2, 1) := by decide +kernel
theorem dX11_clears_23 : decode cX11_clears 23 = .ok (.imul, 1) := by decide +kernel
theorem dX11_clears_24 : decode cX11_clears 24 = .ok (.iadd, 1) := by decide +kernel
theorem dX11_clears_25 : decode cX11_clears 25 = .ok (.iconst 2, 1) := by decide +kernel
theorem dX11_clears_26 : decode cX11_clears 26 = .ok (.iadd, 1) := by decide +kernel
theorem dX11_clears_27 : decode cX11_clears 27 = .ok (.iaload, 1) := by decide +kernel
theorem dX11_clears_28 : decode cX11_clears 28 = .ok (.aload_n 0, 1) := by decide +kernel
theorem dX11_clears_29 : decode cX11_clears 29 = .ok (.getfield 7, 3) := by decide +kernel
theorem dX11_clears_32 : decode cX11_clears 32 = .ok (.iconst 2, 1) := by decide +kernel
theorem dX11_clears_33 : decode cX11_clears 33 = .ok (.iaload, 1) := by decide +kernel
theorem dX11_clears_34 : decode cX11_clears 34 = .ok (.if_icmp .le 45, 3) := by decide +kernel
theorem dX11_clears_37 : decode cX11_clears 37 = .ok (.iconst 0, 1) := by decide +kernel
theorem dX11_clears_38 : decode cX11_clears 38 = .ok (.istore_n 3, 1) := by decide +kernel
theorem dX11_clears_39 : decode cX11_clears 39 = .ok (.iload_n 3, 1) := by decide +kernel
theorem dX11_clears_40 : decode cX11_clears 40 = .ok (.iconst 3, 1) := by decide +kernel
theorem dX11_clears_41 : decode cX11_clears 41 = .ok (.if_icmp .ge 35, 3) := by decide +kernel
theorem dX11_clears_44 : decode cX11_clears 44 = .ok (.aload_n 0, 1) := by decide +kernel
theorem dX11_clears_45 : decode cX11_clears 45 = .ok (.getfield 7, 3) := by decide +kernel
theorem dX11_clears_48 : decode cX11_clears 48 = .ok (.bipush 83, 2) := by decide +kernel
theorem dX11_clears_50 : decode cX11_clears 50 = .ok (.iconst 3, 1) := by decide +kernel
theorem dX11_clears_51 : decode cX11_clears 51 = .ok (.iload_n 1, 1) := by decide +kernel
theorem dX11_clears_52 : decode cX11_clears 52 = .ok (.imul, 1) := by decide +kernel
theorem dX11_clears_53 : decode cX11_clears 53 = .ok (.iadd, 1) := by decide +kernel
theorem dX11_clears_54 : decode cX11_clears 54 = .ok (.iload_n 3, 1) := by decide +kernel
theorem dX11_clears_55 : decode cX11_clears 55 = .ok (.iadd, 1) := by decide +kernel
theorem dX11_clears_56 : decode cX11_clears 56 = .ok (.aload_n 0, 1) := by decide +kernel
theorem dX11_clears_57 : decode cX11_clears 57 = .ok (.getfield 7, 3) := by decide +kernel
theorem dX11_clears_60 : decode cX11_clears 60 = .ok (.bipush 83, 2) := by decide +kernel
theorem dX11_clears_62 : decode cX11_clears 62 = .ok (.iconst 3, 1) := by decide +kernel
theorem dX11_clears_63 : decode cX11_clears 63 = .ok (.iload_n 2, 1) := by decide +kernel
theorem dX11_clears_64 : decode cX11_clears 64 = .ok (.imul, 1) := by decide +kernel
theorem dX11_clears_65 : decode cX11_clears 65 = .ok (.iadd, 1) := by decide +kernel
theorem dX11_clears_66 : decode cX11_clears 66 = .ok (.iload_n 3, 1) := by decide +kernel
theorem dX11_clears_67 : decode cX11_clears 67 = .ok (.iadd, 1) := by decide +kernel
theorem dX11_clears_68 : decode cX11_clears 68 = .ok (.iaload, 1) := by decide +kernel
theorem dX11_clears_69 : decode cX11_clears 69 = .ok (.iastore, 1) := by decide +kernel
theorem dX11_clears_70 : decode cX11_clears 70 = .ok (.iinc 3 1, 3) := by decide +kernel
theorem dX11_clears_73 : decode cX11_clears 73 = .ok (.goto (-34), 3) := by decide +kernel
theorem dX11_clears_76 : decode cX11_clears 76 = .ok (.iinc 1 1, 3) := by decide +kernel
theorem dX11_clears_79 : decode cX11_clears 79 = .ok (.iinc 2 1, 3) := by decide +kernel
theorem dX11_clears_82 : decode cX11_clears 82 = .ok (.goto (-78), 3) := by decide +kernel
theorem dX11_clears_85 : decode cX11_clears 85 = .ok (.aload_n 0, 1) := by decide +kernel
theorem dX11_clears_86 : decode cX11_clears 86 = .ok (.getfield 7, 3) := by decide +kernel
theorem dX11_clears_89 : decode cX11_clears 89 = .ok (.bipush 15, 2) := by decide +kernel
theorem dX11_clears_91 : decode cX11_clears 91 = .ok (.iload_n 1, 1) := by decide +kernel
theorem dX11_clears_92 : decode cX11_clears 92 = .ok (.iastore, 1) := by decide +kernel
theorem dX11_clears_93 : decode cX11_clears 93 = .ok (.return_, 1) := by decide +kernel
theorem dX11_overrides_0 : decode cX11_overrides 0 = .ok (.aload_n 0, 1) := by decide +kernel
theorem dX11_overrides_1 : decode cX11_overrides 1 = .ok (.iload_n 1, 1) := by decide +kernel
theorem dX11_overrides_2 : decode cX11_overrides 2 = .ok (.invokevirtual 77, 3) := by decide +kernel
theorem dX11_overrides_5 : decode cX11_overrides 5 = .ok (.ifCond .eq 21, 3) := by decide +kernel
theorem dX11_overrides_8 : decode cX11_overrides 8 = .ok (.aload_n 0, 1) := by decide +kernel
theorem dX11_overrides_9 : decode cX11_overrides 9 = .ok (.iload_n 2, 1) := by decide +kernel
theorem dX11_overrides_10 : decode cX11_overrides 10 = .ok (.invokevirtual 80, 3) := by decide +kernel
theorem dX11_overrides_13 : decode cX11_overrides 13 = .ok (.ifCond .eq 13, 3) := by decide +kernel
theorem dX11_overrides_16 : decode cX11_overrides 16 = .ok (.iload_n 3, 1) := by decide +kernel
theorem dX11_overrides_17 : decode cX11_overrides 17 = .ok (.iconst 1, 1) := by decide +kernel
theorem dX11_overrides_18 : decode cX11_overrides 18 = .ok (.bipush 99, 2) := by decide +kernel
theorem dX11_overrides_20 : decode cX11_overrides 20 = .ok (.invokestatic 32, 3) := by decide +kernel
theorem dX11_overrides_23 : decode cX11_overrides 23 = .ok (.ifCond .ne 5, 3) := by decide +kernel
theorem dX11_overrides_26 : decode cX11_overrides 26 = .ok (.iconst (-1), 1) := by decide +kernel
theorem dX11_overrides_27 : decode cX11_overrides 27 = .ok (.ireturn, 1) := by decide +kernel
theorem dX11_overrides_28 : decode cX11_overrides 28 = .ok (.aload_n 0, 1) := by decide +kernel
theorem dX11_overrides_29 : decode cX11_overrides 29 = .ok (.invokevirtual 89, 3) := by decide +kernel
theorem dX11_overrides_32 : decode cX11_overrides 32 = .ok (.bipush 6, 2) := by decide +kernel
theorem dX11_overrides_34 : decode cX11_overrides 34 = .ok (.if_icmp .ne 6, 3) := by decide +kernel
theorem dX11_overrides_37 : decode cX11_overrides 37 = .ok (.bipush (-3), 2) := by decide +kernel
theorem dX11_overrides_39 : decode cX11_overrides 39 = .ok (.ireturn, 1) := by decide +kernel
theorem dX11_overrides_40 : decode cX11_overrides 40 = .ok (.aload_n 0, 1) := by decide +kernel
theorem dX11_overrides_41 : decode cX11_overrides 41 = .ok (.invokevirtual 93, 3) := by decide +kernel
theorem dX11_overrides_44 : decode cX11_overrides 44 = .ok (.bipush 83, 2) := by decide +kernel
theorem dX11_overrides_46 : decode cX11_overrides 46 = .ok (.iconst 3, 1) := by decide +kernel
theorem dX11_overrides_47 : decode cX11_overrides 47 = .ok (.aload_n 0, 1) := by decide +kernel
theorem dX11_overrides_48 : decode cX11_overrides 48 = .ok (.getfield 7, 3) := by decide +kernel
theorem dX11_overrides_51 : decode cX11_overrides 51 = .ok (.bipush 15, 2) := by decide +kernel
theorem dX11_overrides_53 : decode cX11_overrides 53 = .ok (.iaload, 1) := by decide +kernel
theorem dX11_overrides_54 : decode cX11_overrides 54 = .ok (.imul, 1) := by decide +kernel
theorem dX11_overrides_55 : decode cX11_overrides 55 = .ok (.iadd, 1) := by decide +kernel
theorem dX11_overrides_56 : decode cX11_overrides 56 = .ok (.istore 4, 2) := by decide +kernel
theorem dX11_overrides_58 : decode cX11_overrides 58 = .ok (.aload_n 0, 1) := by decide +kernel
theorem dX11_overrides_59 : decode cX11_overrides 59 = .ok (.getfield 7, 3) := by decide +kernel
theorem dX11_overrides_62 : decode cX11_overrides 62 = .ok (.iload 4, 2) := by decide +kernel
theorem dX11_overrides_64 : decode cX11_overrides 64 = .ok (.iload_n 1, 1) := by decide +kernel
theorem dX11_overrides_65 : decode cX11_overrides 65 = .ok (.iastore, 1) := by decide +kernel
theorem dX11_overrides_66 : decode cX11_overrides 66 = .ok (.aload_n 0, 1) := by decide +kernel
theorem dX11_overrides_67 : decode cX11_overrides 67 = .ok (.getfield 7, 3) := by decide +kernel
theorem dX11_overrides_70 : decode cX11_overrides 70 = .ok (.iload 4, 2) := by decide +kernel
theorem dX11_overrides_72 : decode cX11_overrides 72 = .ok (.iconst 1, 1) := by decide +kernel
theorem dX11_overrides_73 : decode cX11_overrides 73 = .ok (.iadd, 1) := by decide +kernel
theorem dX11_overrides_74 : decode cX11_overrides 74 = .ok (.iload_n 2, 1) := by decide +kernel
theorem dX11_overrides_75 : decode cX11_overrides 75 = .ok (.iastore, 1) := by decide +kernel
theorem dX11_overrides_76 : decode cX11_overrides 76 = .ok (.aload_n 0, 1) := by decide +kernel
theorem dX11_overrides_77 : decode cX11_overrides 77 = .ok (.getfield 7, 3) := by decide +kernel
theorem dX11_overrides_80 : decode cX11_overrides 80 = .ok (.iload 4, 2) := by decide +kernel
theorem dX11_overrides_82 : decode cX11_overrides 82 = .ok (.iconst 2, 1) := by decide +kernel
theorem dX11_overrides_83 : decode cX11_overrides 83 = .ok (.iadd, 1) := by decide +kernel
theorem dX11_overrides_84 : decode cX11_overrides 84 = .ok (.aload_n 0, 1) := by decide +kernel
theorem dX11_overrides_85 : decode cX11_overrides 85 = .ok (.getfield 7, 3) := by decide +kernel
theorem dX11_overrides_88 : decode cX11_overrides 88 = .ok (.iconst 2, 1) := by decide +kernel
theorem dX11_overrides_89 : decode cX11_overrides 89 = .ok (.iaload, 1) := by decide +kernel
theorem dX11_overrides_90 : decode cX11_overrides 90 = .ok (.bipush 60, 2) := by decide +kernel
theorem dX11_overrides_92 : decode cX11_overrides 92 = .ok (.iload_n 3, 1) := by decide +kernel
theorem dX11_overrides_93 : decode cX11_overrides 93 = .ok (.imul, 1) := by decide +kernel
theorem dX11_overrides_94 : decode cX11_overrides 94 = .ok (.iadd, 1) := by decide +kernel
theorem dX11_overrides_95 : decode cX11_overrides 95 = .ok (.iastore, 1) := by decide +kernel
theorem dX11_overrides_96 : decode cX11_overrides 96 = .ok (.aload_n 0, 1) := by decide +kernel
theorem dX11_overrides_97 : decode cX11_overrides 97 = .ok (.getfield 7, 3) := by decide +kernel
theorem dX11_overrides_100 : decode cX11_overrides 100 = .ok (.bipush 15, 2) := by decide +kernel
theorem dX11_overrides_102 : decode cX11_overrides 102 = .ok (.dup2, 1) := by decide +kernel
theorem dX11_overrides_103 : decode cX11_overrides 103 = .ok (.iaload, 1) := by decide +kernel
theorem dX11_overrides_104 : decode cX11_overrides 104 = .ok (.iconst 1, 1) := by decide +kernel
theorem dX11_overrides_105 : decode cX11_overrides 105 = .ok (.iadd, 1) := by decide +kernel
theorem dX11_overrides_106 : decode cX11_overrides 106 = .ok (.iastore, 1) := by decide +kernel
theorem dX11_overrides_107 : decode cX11_overrides 107 = .ok (.aload_n 0, 1) := by decide +kernel
theorem dX11_overrides_108 : decode cX11_overrides 108 = .ok (.getfield 7, 3) := by decide +kernel
theorem dX11_overrides_111 : decode cX11_overrides 111 = .ok (.bipush 15, 2) := by decide +kernel
theorem dX11_overrides_113 : decode cX11_overrides 113 = .ok (.iaload, 1) := by decide +kernel
theorem dX11_overrides_114 : decode cX11_overrides 114 = .ok (.ireturn, 1) := by decide +kernel
theorem dX11_foldsInto_0 : decode cX11_foldsInto 0 = .ok (.iconst 0, 1) := by decide +kernel
theorem dX11_foldsInto_1 : decode cX11_foldsInto 1 = .ok (.istore_n 2, 1) := by decide +kernel
theorem dX11_foldsInto_2 : decode cX11_foldsInto 2 = .ok (.iload_n 2, 1) := by decide +kernel
theorem dX11_foldsInto_3 : decode cX11_foldsInto 3 = .ok (.bipush 8, 2) := by decide +kernel
theorem dX11_foldsInto_5 : decode cX11_foldsInto 5 = .ok (.if_icmp .ge 62, 3) := by decide +kernel
theorem dX11_foldsInto_8 : decode cX11_foldsInto 8 = .ok (.iload_n 2, 1) := by decide +kernel
theorem dX11_foldsInto_9 : decode cX11_foldsInto 9 = .ok (.invokestatic 36, 3) := by decide +kernel
theorem dX11_foldsInto_12 : decode cX11_foldsInto 12 = .ok (.istore_n 3, 1) := by decide +kernel
theorem dX11_foldsInto_13 : decode cX11_foldsInto 13 = .ok (.aload_n 0, 1) := by decide +kernel
theorem dX11_foldsInto_14 : decode cX11_foldsInto 14 = .ok (.iload_n 2, 1) := by decide +kernel
theorem dX11_foldsInto_15 : decode cX11_foldsInto 15 = .ok (.invokevirtual 70, 3) := by decide +kernel
theorem dX11_foldsInto_18 : decode cX11_foldsInto 18 = .ok (.ifCond .eq 43, 3) := by decide +kernel
theorem dX11_foldsInto_21 : decode cX11_foldsInto 21 = .ok (.aload_n 0, 1) := by decide +kernel
theorem dX11_foldsInto_22 : decode cX11_foldsInto 22 = .ok (.getfield 7, 3) := by decide +kernel
theorem dX11_foldsInto_25 : decode cX11_foldsInto 25 = .ok (.iload_n 3, 1) := by decide +kernel
theorem dX11_foldsInto_26 : decode cX11_foldsInto 26 = .ok (.iconst 1, 1) := by decide +kernel
theorem dX11_foldsInto_27 : decode cX11_foldsInto 27 = .ok (.iadd, 1) := by decide +kernel
theorem dX11_foldsInto_28 : decode cX11_foldsInto 28 = .ok (.iaload, 1) := by decide +kernel
theorem dX11_foldsInto_29 : decode cX11_foldsInto 29 = .ok (.iload_n 1, 1) := by decide +kernel
theorem dX11_foldsInto_30 : decode cX11_foldsInto 30 = .ok (.if_icmp .ne 31, 3) := by decide +kernel
theorem dX11_foldsInto_33 : decode cX11_foldsInto 33 = .ok (.aload_n 0, 1) := by decide +kernel
theorem dX11_foldsInto_34 : decode cX11_foldsInto 34 = .ok (.getfield 7, 3) := by decide +kernel
theorem dX11_foldsInto_37 : decode cX11_foldsInto 37 = .ok (.iconst 2, 1) := by decide +kernel
theorem dX11_foldsInto_38 : decode cX11_foldsInto 38 = .ok (.iaload, 1) := by decide +kernel
theorem dX11_foldsInto_39 : decode cX11_foldsInto 39 = .ok (.aload_n 0, 1) := by decide +kernel
theorem dX11_foldsInto_40 : decode cX11_foldsInto 40 = .ok (.getfield 7, 3) := by decide +kernel
theorem dX11_foldsInto_43 : decode cX11_foldsInto 43 = .ok (.iload_n 3, 1) := by decide +kernel
theorem dX11_foldsInto_44 : decode cX11_foldsInto 44 = .ok (.bipush 8, 2) := by decide +kernel
theorem dX11_foldsInto_46 : decode cX11_foldsInto 46 = .ok (.iadd, 1) := by decide +kernel
theorem dX11_foldsInto_47 : decode cX11_foldsInto 47 = .ok (.iaload, 1) := by decide +kernel
theorem dX11_foldsInto_48 : decode cX11_foldsInto 48 = .ok (.isub, 1) := by decide +kernel
theorem dX11_foldsInto_49 : decode cX11_foldsInto 49 = .ok (.aload_n 0, 1) := by decide +kernel
theorem dX11_foldsInto_50 : decode cX11_foldsInto 50 = .ok (.getfield 7, 3) := by decide +kernel
theorem dX11_foldsInto_53 : decode cX11_foldsInto 53 = .ok (.bipush 14, 2) := by decide +kernel
theorem dX11_foldsInto_55 : decode cX11_foldsInto 55 = .ok (.iaload, 1) := by decide +kernel
theorem dX11_foldsInto_56 : decode cX11_foldsInto 56 = .ok (.if_icmp .gt 5, 3) := by decide +kernel
theorem dX11_foldsInto_59 : decode cX11_foldsInto 59 = .ok (.iload_n 2, 1) := by decide +kernel
theorem dX11_foldsInto_60 : decode cX11_foldsInto 60 = .ok (.ireturn, 1) := by decide +kernel
theorem dX11_foldsInto_61 : decode cX11_foldsInto 61 = .ok (.iinc 2 1, 3) := by decide +kernel
theorem dX11_foldsInto_64 : decode cX11_foldsInto 64 = .ok (.goto (-62), 3) := by decide +kernel
theorem dX11_foldsInto_67 : decode cX11_foldsInto 67 = .ok (.iconst (-1), 1) := by decide +kernel
theorem dX11_foldsInto_68 : decode cX11_foldsInto 68 = .ok (.ireturn, 1) := by decide +kernel
theorem dX11_lowestFree_0 : decode cX11_lowestFree 0 = .ok (.iconst (-1), 1) := by decide +kernel
theorem dX11_lowestFree_1 : decode cX11_lowestFree 1 = .ok (.istore_n 1, 1) := by decide +kernel
theorem dX11_lowestFree_2 : decode cX11_lowestFree 2 = .ok (.bipush 7, 2) := by decide +kernel
theorem dX11_lowestFree_4 : decode cX11_lowestFree 4 = .ok (.istore_n 2, 1) := by decide +kernel
theorem dX11_lowestFree_5 : decode cX11_lowestFree 5 = .ok (.iload_n 2, 1) := by decide +kernel
theorem dX11_lowestFree_6 : decode cX11_lowestFree 6 = .ok (.ifCond .lt 23, 3) := by decide +kernel
theorem dX11_lowestFree_9 : decode cX11_lowestFree 9 = .ok (.aload_n 0, 1) := by decide +kernel
theorem dX11_lowestFree_10 : decode cX11_lowestFree 10 = .ok (.iload_n 2, 1) := by decide +kernel
theorem dX11_lowestFree_11 : decode cX11_lowestFree 11 = .ok (.invokevirtual 70, 3) := by decide +kernel
theorem dX11_lowestFree_14 : decode cX11_lowestFree 14 = .ok (.ifCond .eq 7, 3) := by decide +kernel
theorem dX11_lowestFree_17 : decode cX11_lowestFree 17 = .ok (.iload_n 1, 1) := by decide +kernel
theorem dX11_lowestFree_18 : decode cX11_lowestFree 18 = .ok (.goto 4, 3) := by decide +kernel
theorem dX11_lowestFree_21 : decode cX11_lowestFree 21 = .ok (.iload_n 2, 1) := by decide +kernel
theorem dX11_lowestFree_22 : decode cX11_lowestFree 22 = .ok (.istore_n 1, 1) := by decide +kernel
theorem dX11_lowestFree_23 : decode cX11_lowestFree 23 = .ok (.iinc 2 (-1), 3) := by decide +kernel
theorem dX11_lowestFree_26 : decode cX11_lowestFree 26 = .ok (.goto (-21), 3) := by decide +kernel
theorem dX11_lowestFree_29 : decode cX11_lowestFree 29 = .ok (.iload_n 1, 1) := by decide +kernel
theorem dX11_lowestFree_30 : decode cX11_lowestFree 30 = .ok (.ireturn, 1) := by decide +kernel
theorem dX11_opens_0 : decode cX11_opens 0 = .ok (.aload_n 0, 1) := by decide +kernel
theorem dX11_opens_1 : decode cX11_opens 1 = .ok (.invokevirtual 96, 3) := by decide +kernel
theorem dX11_opens_4 : decode cX11_opens 4 = .ok (.istore_n 3, 1) := by decide +kernel
theorem dX11_opens_5 : decode cX11_opens 5 = .ok (.iload_n 3, 1) := by decide +kernel
theorem dX11_opens_6 : decode cX11_opens 6 = .ok (.ifCond .ge 6, 3) := by decide +kernel
theorem dX11_opens_9 : decode cX11_opens 9 = .ok (.bipush (-3), 2) := by decide +kernel
theorem dX11_opens_11 : decode cX11_opens 11 = .ok (.ireturn, 1) := by decide +kernel
theorem dX11_opens_12 : decode cX11_opens 12 = .ok (.iload_n 3, 1) := by decide +kernel
theorem dX11_opens_13 : decode cX11_opens 13 = .ok (.invokestatic 36, 3) := by decide +kernel
theorem dX11_opens_16 : decode cX11_opens 16 = .ok (.istore 4, 2) := by decide +kernel
theorem dX11_opens_18 : decode cX11_opens 18 = .ok (.iconst 0, 1) := by decide +kernel
theorem dX11_opens_19 : decode cX11_opens 19 = .ok (.istore 5, 2) := by decide +kernel
theorem dX11_opens_21 : decode cX11_opens 21 = .ok (.iload 5, 2) := by decide +kernel
theorem dX11_opens_23 : decode cX11_opens 23 = .ok (.bipush 16, 2) := by decide +kernel
theorem dX11_opens_25 : decode cX11_opens 25 = .ok (.if_icmp .ge 20, 3) := by decide +kernel
theorem dX11_opens_28 : decode cX11_opens 28 = .ok (.aload_n 0, 1) := by decide +kernel
theorem dX11_opens_29 : decode cX11_opens 29 = .ok (.getfield 7, 3) := by decide +kernel
theorem dX11_opens_32 : decode cX11_opens 32 = .ok (.iload 4, 2) := by decide +kernel
theorem dX11_opens_34 : decode cX11_opens 34 = .ok (.iload 5, 2) := by decide +kernel
theorem dX11_opens_36 : decode cX11_opens 36 = .ok (.iadd, 1) := by decide +kernel
theorem dX11_opens_37 : decode cX11_opens 37 = .ok (.iconst 0, 1) := by decide +kernel
theorem dX11_opens_38 : decode cX11_opens 38 = .ok (.iastore, 1) := by decide +kernel
theorem dX11_opens_39 : decode cX11_opens 39 = .ok (.iinc 5 1, 3) := by decide +kernel
theorem dX11_opens_42 : decode cX11_opens 42 = .ok (.goto (-21), 3) := by decide +kernel
theorem dX11_opens_45 : decode cX11_opens 45 = .ok (.aload_n 0, 1) := by decide +kernel
theorem dX11_opens_46 : decode cX11_opens 46 = .ok (.getfield 7, 3) := by decide +kernel
theorem dX11_opens_49 : decode cX11_opens 49 = .ok (.iload 4, 2) := by decide +kernel
theorem dX11_opens_51 : decode cX11_opens 51 = .ok (.iconst 0, 1) := by decide +kernel
theorem dX11_opens_52 : decode cX11_opens 52 = .ok (.iadd, 1) := by decide +kernel
theorem dX11_opens_53 : decode cX11_opens 53 = .ok (.iconst 1, 1) := by decide +kernel
theorem dX11_opens_54 : decode cX11_opens 54 = .ok (.iastore, 1) := by decide +kernel
theorem dX11_opens_55 : decode cX11_opens 55 = .ok (.aload_n 0, 1) := by decide +kernel
theorem dX11_opens_56 : decode cX11_opens 56 = .ok (.getfield 7, 3) := by decide +kernel
theorem dX11_opens_59 : decode cX11_opens 59 = .ok (.iload 4, 2) := by decide +kernel
theorem dX11_opens_61 : decode cX11_opens 61 = .ok (.iconst 1, 1) := by decide +kernel
theorem dX11_opens_62 : decode cX11_opens 62 = .ok (.iadd, 1) := by decide +kernel
theorem dX11_opens_63 : decode cX11_opens 63 = .ok (.iload_n 1, 1) := by decide +kernel
theorem dX11_opens_64 : decode cX11_opens 64 = .ok (.iastore, 1) := by decide +kernel
theorem dX11_opens_65 : decode cX11_opens 65 = .ok (.aload_n 0, 1) := by decide +kernel
theorem dX11_opens_66 : decode cX11_opens 66 = .ok (.getfield 7, 3) := by decide +kernel
theorem dX11_opens_69 : decode cX11_opens 69 = .ok (.iload 4, 2) := by decide +kernel
theorem dX11_opens_71 : decode cX11_opens 71 = .ok (.iconst 2, 1) := by decide +kernel
theorem dX11_opens_72 : decode cX11_opens 72 = .ok (.iadd, 1) := by decide +kernel
theorem dX11_opens_73 : decode cX11_opens 73 = .ok (.iload_n 2, 1) := by decide +kernel
theorem dX11_opens_74 : decode cX11_opens 74 = .ok (.iastore, 1) := by decide +kernel
theorem dX11_opens_75 : decode cX11_opens 75 = .ok (.aload_n 0, 1) := by decide +kernel
theorem dX11_opens_76 : decode cX11_opens 76 = .ok (.getfield 7, 3) := by decide +kernel
theorem dX11_opens_79 : decode cX11_opens 79 = .ok (.iload 4, 2) := by decide +kernel
theorem dX11_opens_81 : decode cX11_opens 81 = .ok (.bipush 6, 2) := by decide +kernel
theorem dX11_opens_83 : decode cX11_opens 83 = .ok (.iadd, 1) := by decide +kernel
theorem dX11_opens_84 : decode cX11_opens 84 = .ok (.iconst 1, 1) := by decide +kernel
theorem dX11_opens_85 : decode cX11_opens 85 = .ok (.iastore, 1) := by decide +kernel
theorem dX11_opens_86 : decode cX11_opens 86 = .ok (.aload_n 0, 1) := by decide +kernel
theorem dX11_opens_87 : decode cX11_opens 87 = .ok (.getfield 7, 3) := by decide +kernel
theorem dX11_opens_90 : decode cX11_opens 90 = .ok (.iload 4, 2) := by decide +kernel
theorem dX11_opens_92 : decode cX11_opens 92 = .ok (.bipush 7, 2) := by decide +kernel
theorem dX11_opens_94 : decode cX11_opens 94 = .ok (.iadd, 1) := by decide +kernel
theorem dX11_opens_95 : decode cX11_opens 95 = .ok (.aload_n 0, 1) := by decide +kernel
theorem dX11_opens_96 : decode cX11_opens 96 = .ok (.getfield 7, 3) := by decide +kernel
theorem dX11_opens_99 : decode cX11_opens 99 = .ok (.iconst 2, 1) := by decide +kernel
theorem dX11_opens_100 : decode cX11_opens 100 = .ok (.iaload, 1) := by decide +kernel
theorem dX11_opens_101 : decode cX11_opens 101 = .ok (.iastore, 1) := by decide +kernel
theorem dX11_opens_102 : decode cX11_opens 102 = .ok (.aload_n 0, 1) := by decide +kernel
theorem dX11_opens_103 : decode cX11_opens 103 = .ok (.getfield 7, 3) := by decide +kernel
theorem dX11_opens_106 : decode cX11_opens 106 = .ok (.iload 4, 2) := by decide +kernel
theorem dX11_opens_108 : decode cX11_opens 108 = .ok (.bipush 8, 2) := by decide +kernel
theorem dX11_opens_110 : decode cX11_opens 110 = .ok (.iadd, 1) := by decide +kernel
theorem dX11_opens_111 : decode cX11_opens 111 = .ok (.aload_n 0, 1) := by decide +kernel
theorem dX11_opens_112 : decode cX11_opens 112 = .ok (.getfield 7, 3) := by decide +kernel
theorem dX11_opens_115 : decode cX11_opens 115 = .ok (.iconst 2, 1) := by decide +kernel
theorem dX11_opens_116 : decode cX11_opens 116 = .ok (.iaload, 1) := by decide +kernel
theorem dX11_opens_117 : decode cX11_opens 117 = .ok (.iastore, 1) := by decide +kernel
theorem dX11_opens_118 : decode cX11_opens 118 = .ok (.aload_n 0, 1) := by decide +kernel
theorem dX11_opens_119 : decode cX11_opens 119 = .ok (.getfield 7, 3) := by decide +kernel
theorem dX11_opens_122 : decode cX11_opens 122 = .ok (.iconst 3, 1) := by decide +kernel
theorem dX11_opens_123 : decode cX11_opens 123 = .ok (.dup2, 1) := by decide +kernel
theorem dX11_opens_124 : decode cX11_opens 124 = .ok (.iaload, 1) := by decide +kernel
theorem dX11_opens_125 : decode cX11_opens 125 = .ok (.iconst 1, 1) := by decide +kernel
theorem dX11_opens_126 : decode cX11_opens 126 = .ok (.iadd, 1) := by decide +kernel
theorem dX11_opens_127 : decode cX11_opens 127 = .ok (.iastore, 1) := by decide +kernel
theorem dX11_opens_128 : decode cX11_opens 128 = .ok (.aload_n 0, 1) := by decide +kernel
theorem dX11_opens_129 : decode cX11_opens 129 = .ok (.iload_n 3, 1) := by decide +kernel
theorem dX11_opens_130 : decode cX11_opens 130 = .ok (.invokevirtual 66, 3) := by decide +kernel
theorem dX11_opens_133 : decode cX11_opens 133 = .ok (.iload_n 3, 1) := by decide +kernel
theorem dX11_opens_134 : decode cX11_opens 134 = .ok (.ireturn, 1) := by decide +kernel
theorem dX11_alerts_0 : decode cX11_alerts 0 = .ok (.iload_n 1, 1) := by decide +kernel
theorem dX11_alerts_1 : decode cX11_alerts 1 = .ok (.iconst 0, 1) := by decide +kernel
theorem dX11_alerts_2 : decode cX11_alerts 2 = .ok (.bipush 19, 2) := by decide +kernel
theorem dX11_alerts_4 : decode cX11_alerts 4 = .ok (.invokestatic 32, 3) := by decide +kernel
theorem dX11_alerts_7 : decode cX11_alerts 7 = .ok (.ifCond .eq 12, 3) := by decide +kernel
theorem dX11_alerts_10 : decode cX11_alerts 10 = .ok (.iload_n 2, 1) := by decide +kernel
theorem dX11_alerts_11 : decode cX11_alerts 11 = .ok (.iconst 0, 1) := by decide +kernel
theorem dX11_alerts_12 : decode cX11_alerts 12 = .ok (.iconst 2, 1) := by decide +kernel
theorem dX11_alerts_13 : decode cX11_alerts 13 = .ok (.invokestatic 32, 3) := by decide +kernel
theorem dX11_alerts_16 : decode cX11_alerts 16 = .ok (.ifCond .ne 5, 3) := by decide +kernel
theorem dX11_alerts_19 : decode cX11_alerts 19 = .ok (.iconst (-1), 1) := by decide +kernel
theorem dX11_alerts_20 : decode cX11_alerts 20 = .ok (.ireturn, 1) := by decide +kernel
theorem dX11_alerts_21 : decode cX11_alerts 21 = .ok (.aload_n 0, 1) := by decide +kernel
theorem dX11_alerts_22 : decode cX11_alerts 22 = .ok (.iload_n 1, 1) := by decide +kernel
theorem dX11_alerts_23 : decode cX11_alerts 23 = .ok (.invokevirtual 99, 3) := by decide +kernel
theorem dX11_alerts_26 : decode cX11_alerts 26 = .ok (.istore_n 3, 1) := by decide +kernel
theorem dX11_alerts_27 : decode cX11_alerts 27 = .ok (.iload_n 3, 1) := by decide +kernel
theorem dX11_alerts_28 : decode cX11_alerts 28 = .ok (.ifCond .ge 10, 3) := by decide +kernel
theorem dX11_alerts_31 : decode cX11_alerts 31 = .ok (.aload_n 0, 1) := by decide +kernel
theorem dX11_alerts_32 : decode cX11_alerts 32 = .ok (.iload_n 1, 1) := by decide +kernel
theorem dX11_alerts_33 : decode cX11_alerts 33 = .ok (.iload_n 2, 1) := by decide +kernel
theorem dX11_alerts_34 : decode cX11_alerts 34 = .ok (.invokevirtual 102, 3) := by decide +kernel
theorem dX11_alerts_37 : decode cX11_alerts 37 = .ok (.ireturn, 1) := by decide +kernel
theorem dX11_alerts_38 : decode cX11_alerts 38 = .ok (.iload_n 3, 1) := by decide +kernel
theorem dX11_alerts_39 : decode cX11_alerts 39 = .ok (.invokestatic 36, 3) := by decide +kernel
theorem dX11_alerts_42 : decode cX11_alerts 42 = .ok (.istore 4, 2) := by decide +kernel
theorem dX11_alerts_44 : decode cX11_alerts 44 = .ok (.iload_n 2, 1) := by decide +kernel
theorem dX11_alerts_45 : decode cX11_alerts 45 = .ok (.aload_n 0, 1) := by decide +kernel
theorem dX11_alerts_46 : decode cX11_alerts 46 = .ok (.getfield 7, 3) := by decide +kernel
theorem dX11_alerts_49 : decode cX11_alerts 49 = .ok (.iload 4, 2) := by decide +kernel
theorem dX11_alerts_51 : decode cX11_alerts 51 = .ok (.iconst 2, 1) := by decide +kernel
theorem dX11_alerts_52 : decode cX11_alerts 52 = .ok (.iadd, 1) := by decide +kernel
theorem dX11_alerts_53 : decode cX11_alerts 53 = .ok (.iaload, 1) := by decide +kernel
theorem dX11_alerts_54 : decode cX11_alerts 54 = .ok (.if_icmp .le 7, 3) := by decide +kernel
theorem dX11_alerts_57 : decode cX11_alerts 57 = .ok (.iconst 1, 1) := by decide +kernel
theorem dX11_alerts_58 : decode cX11_alerts 58 = .ok (.goto 4, 3) := by decide +kernel
theorem dX11_alerts_61 : decode cX11_alerts 61 = .ok (.iconst 0, 1) := by decide +kernel
theorem dX11_alerts_62 : decode cX11_alerts 62 = .ok (.istore 5, 2) := by decide +kernel
theorem dX11_alerts_64 : decode cX11_alerts 64 = .ok (.aload_n 0, 1) := by decide +kernel
theorem dX11_alerts_65 : decode cX11_alerts 65 = .ok (.getfield 7, 3) := by decide +kernel
theorem dX11_alerts_68 : decode cX11_alerts 68 = .ok (.iload 4, 2) := by decide +kernel
theorem dX11_alerts_70 : decode cX11_alerts 70 = .ok (.iconst 2, 1) := by decide +kernel
theorem dX11_alerts_71 : decode cX11_alerts 71 = .ok (.iadd, 1) := by decide +kernel
theorem dX11_alerts_72 : decode cX11_alerts 72 = .ok (.iload 5, 2) := by decide +kernel
theorem dX11_alerts_74 : decode cX11_alerts 74 = .ok (.ifCond .eq 7, 3) := by decide +kernel
theorem dX11_alerts_77 : decode cX11_alerts 77 = .ok (.iload_n 2, 1) := by decide +kernel
theorem dX11_alerts_78 : decode cX11_alerts 78 = .ok (.goto 12, 3) := by decide +kernel
theorem dX11_alerts_81 : decode cX11_alerts 81 = .ok (.aload_n 0, 1) := by decide +kernel
theorem dX11_alerts_82 : decode cX11_alerts 82 = .ok (.getfield 7, 3) := by decide +kernel
theorem dX11_alerts_85 : decode cX11_alerts 85 = .ok (.iload 4, 2) := by decide +kernel
theorem dX11_alerts_87 : decode cX11_alerts 87 = .ok (.iconst 2, 1) := by decide +kernel
theorem dX11_alerts_88 : decode cX11_alerts 88 = .ok (.iadd, 1) := by decide +kernel
theorem dX11_alerts_89 : decode cX11_alerts 89 = .ok (.iaload, 1) := by decide +kernel
theorem dX11_alerts_90 : decode cX11_alerts 90 = .ok (.iastore, 1) := by decide +kernel
theorem dX11_alerts_91 : decode cX11_alerts 91 = .ok (.aload_n 0, 1) := by decide +kernel
theorem dX11_alerts_92 : decode cX11_alerts 92 = .ok (.getfield 7, 3) := by decide +kernel
theorem dX11_alerts_95 : decode cX11_alerts 95 = .ok (.iload 4, 2) := by decide +kernel
theorem dX11_alerts_97 : decode cX11_alerts 97 = .ok (.bipush 8, 2) := by decide +kernel
theorem dX11_alerts_99 : decode cX11_alerts 99 = .ok (.iadd, 1) := by decide +kernel
theorem dX11_alerts_100 : decode cX11_alerts 100 = .ok (.aload_n 0, 1) := by decide +kernel
theorem dX11_alerts_101 : decode cX11_alerts 101 = .ok (.getfield 7, 3) := by decide +kernel
theorem dX11_alerts_104 : decode cX11_alerts 104 = .ok (.iconst 2, 1) := by decide +kernel
theorem dX11_alerts_105 : decode cX11_alerts 105 = .ok (.iaload, 1) := by decide +kernel
theorem dX11_alerts_106 : decode cX11_alerts 106 = .ok (.iastore, 1) := by decide +kernel
theorem dX11_alerts_107 : decode cX11_alerts 107 = .ok (.aload_n 0, 1) := by decide +kernel
theorem dX11_alerts_108 : decode cX11_alerts 108 = .ok (.getfield 7, 3) := by decide +kernel
theorem dX11_alerts_111 : decode cX11_alerts 111 = .ok (.iload 4, 2) := by decide +kernel
theorem dX11_alerts_113 : decode cX11_alerts 113 = .ok (.bipush 6, 2) := by decide +kernel
theorem dX11_alerts_115 : decode cX11_alerts 115 = .ok (.iadd, 1) := by decide +kernel
theorem dX11_alerts_116 : decode cX11_alerts 116 = .ok (.dup2, 1) := by decide +kernel
theorem dX11_alerts_117 : decode cX11_alerts 117 = .ok (.iaload, 1) := by decide +kernel
theorem dX11_alerts_118 : decode cX11_alerts 118 = .ok (.iconst 1, 1) := by decide +kernel
theorem dX11_alerts_119 : decode cX11_alerts 119 = .ok (.iadd, 1) := by decide +kernel
theorem dX11_alerts_120 : decode cX11_alerts 120 = .ok (.iastore, 1) := by decide +kernel
theorem dX11_alerts_121 : decode cX11_alerts 121 = .ok (.aload_n 0, 1) := by decide +kernel
theorem dX11_alerts_122 : decode cX11_alerts 122 = .ok (.getfield 7, 3) := by decide +kernel
theorem dX11_alerts_125 : decode cX11_alerts 125 = .ok (.iconst 3, 1) := by decide +kernel
theorem dX11_alerts_126 : decode cX11_alerts 126 = .ok (.dup2, 1) := by decide +kernel
theorem dX11_alerts_127 : decode cX11_alerts 127 = .ok (.iaload, 1) := by decide +kernel
theorem dX11_alerts_128 : decode cX11_alerts 128 = .ok (.iconst 1, 1) := by decide +kernel
theorem dX11_alerts_129 : decode cX11_alerts 129 = .ok (.iadd, 1) := by decide +kernel
theorem dX11_alerts_130 : decode cX11_alerts 130 = .ok (.iastore, 1) := by decide +kernel
theorem dX11_alerts_131 : decode cX11_alerts 131 = .ok (.aload_n 0, 1) := by decide +kernel
theorem dX11_alerts_132 : decode cX11_alerts 132 = .ok (.getfield 7, 3) := by decide +kernel
theorem dX11_alerts_135 : decode cX11_alerts 135 = .ok (.iconst 4, 1) := by decide +kernel
theorem dX11_alerts_136 : decode cX11_alerts 136 = .ok (.dup2, 1) := by decide +kernel
theorem dX11_alerts_137 : decode cX11_alerts 137 = .ok (.iaload, 1) := by decide +kernel
theorem dX11_alerts_138 : decode cX11_alerts 138 = .ok (.iconst 1, 1) := by decide +kernel
theorem dX11_alerts_139 : decode cX11_alerts 139 = .ok (.iadd, 1) := by decide +kernel
theorem dX11_alerts_140 : decode cX11_alerts 140 = .ok (.iastore, 1) := by decide +kernel
theorem dX11_alerts_141 : decode cX11_alerts 141 = .ok (.iload 5, 2) := by decide +kernel
theorem dX11_alerts_143 : decode cX11_alerts 143 = .ok (.ifCond .eq 20, 3) := by decide +kernel
theorem dX11_alerts_146 : decode cX11_alerts 146 = .ok (.aload_n 0, 1) := by decide +kernel
theorem dX11_alerts_147 : decode cX11_alerts 147 = .ok (.getfield 7, 3) := by decide +kernel
theorem dX11_alerts_150 : decode cX11_alerts 150 = .ok (.iload 4, 2) := by decide +kernel
theorem dX11_alerts_152 : decode cX11_alerts 152 = .ok (.iconst 4, 1) := by decide +kernel
theorem dX11_alerts_153 : decode cX11_alerts 153 = .ok (.iadd, 1) := by decide +kernel
theorem dX11_alerts_154 : decode cX11_alerts 154 = .ok (.iaload, 1) := by decide +kernel
theorem dX11_alerts_155 : decode cX11_alerts 155 = .ok (.ifCond .ne 8, 3) := by decide +kernel
theorem dX11_alerts_158 : decode cX11_alerts 158 = .ok (.aload_n 0, 1) := by decide +kernel
theorem dX11_alerts_159 : decode cX11_alerts 159 = .ok (.iload_n 3, 1) := by decide +kernel
theorem dX11_alerts_160 : decode cX11_alerts 160 = .ok (.invokevirtual 66, 3) := by decide +kernel
theorem dX11_alerts_163 : decode cX11_alerts 163 = .ok (.iload_n 3, 1) := by decide +kernel
theorem dX11_alerts_164 : decode cX11_alerts 164 = .ok (.ireturn, 1) := by decide +kernel
theorem dX11_acknowledges_0 : decode cX11_acknowledges 0 = .ok (.aload_n 0, 1) := by decide +kernel
theorem dX11_acknowledges_1 : decode cX11_acknowledges 1 = .ok (.iload_n 1, 1) := by decide +kernel
theorem dX11_acknowledges_2 : decode cX11_acknowledges 2 = .ok (.invokevirtual 70, 3) := by decide +kernel
theorem dX11_acknowledges_5 : decode cX11_acknowledges 5 = .ok (.ifCond .ne 5, 3) := by decide +kernel
theorem dX11_acknowledges_8 : decode cX11_acknowledges 8 = .ok (.iconst (-1), 1) := by decide +kernel
theorem dX11_acknowledges_9 : decode cX11_acknowledges 9 = .ok (.ireturn, 1) := by decide +kernel
theorem dX11_acknowledges_10 : decode cX11_acknowledges 10 = .ok (.iload_n 1, 1) := by decide +kernel
theorem dX11_acknowledges_11 : decode cX11_acknowledges 11 = .ok (.invokestatic 36, 3) := by decide +kernel
theorem dX11_acknowledges_14 : decode cX11_acknowledges 14 = .ok (.istore_n 2, 1) := by decide +kernel
theorem dX11_acknowledges_15 : decode cX11_acknowledges 15 = .ok (.aload_n 0, 1) := by decide +kernel
theorem dX11_acknowledges_16 : decode cX11_acknowledges 16 = .ok (.getfield 7, 3) := by decide +kernel
theorem dX11_acknowledges_19 : decode cX11_acknowledges 19 = .ok (.iload_n 2, 1) := by decide +kernel
theorem dX11_acknowledges_20 : decode cX11_acknowledges 20 = .ok (.iconst 4, 1) := by decide +kernel
theorem dX11_acknowledges_21 : decode cX11_acknowledges 21 = .ok (.iadd, 1) := by decide +kernel
theorem dX11_acknowledges_22 : decode cX11_acknowledges 22 = .ok (.iaload, 1) := by decide +kernel
theorem dX11_acknowledges_23 : decode cX11_acknowledges 23 = .ok (.ifCond .eq 15, 3) := by decide +kernel
theorem dX11_acknowledges_26 : decode cX11_acknowledges 26 = .ok (.aload_n 0, 1) := by decide +kernel
theorem dX11_acknowledges_27 : decode cX11_acknowledges 27 = .ok (.getfield 7, 3) := by decide +kernel
theorem dX11_acknowledges_30 : decode cX11_acknowledges 30 = .ok (.iload_n 2, 1) := by decide +kernel
theorem dX11_acknowledges_31 : decode cX11_acknowledges 31 = .ok (.iconst 5, 1) := by decide +kernel
theorem dX11_acknowledges_32 : decode cX11_acknowledges 32 = .ok (.iadd, 1) := by decide +kernel
theorem dX11_acknowledges_33 : decode cX11_acknowledges 33 = .ok (.iaload, 1) := by decide +kernel
theorem dX11_acknowledges_34 : decode cX11_acknowledges 34 = .ok (.iconst 1, 1) := by decide +kernel
theorem dX11_acknowledges_35 : decode cX11_acknowledges 35 = .ok (.if_icmp .ne 6, 3) := by decide +kernel
theorem dX11_acknowledges_38 : decode cX11_acknowledges 38 = .ok (.bipush (-2), 2) := by decide +kernel
theorem dX11_acknowledges_40 : decode cX11_acknowledges 40 = .ok (.ireturn, 1) := by decide +kernel
theorem dX11_acknowledges_41 : decode cX11_acknowledges 41 = .ok (.aload_n 0, 1) := by decide +kernel
theorem dX11_acknowledges_42 : decode cX11_acknowledges 42 = .ok (.getfield 7, 3) := by decide +kernel
theorem dX11_acknowledges_45 : decode cX11_acknowledges 45 = .ok (.iconst 2, 1) := by decide +kernel
theorem dX11_acknowledges_46 : decode cX11_acknowledges 46 = .ok (.iaload, 1) := by decide +kernel
theorem dX11_acknowledges_47 : decode cX11_acknowledges 47 = .ok (.aload_n 0, 1) := by decide +kernel
theorem dX11_acknowledges_48 : decode cX11_acknowledges 48 = .ok (.getfield 7, 3) := by decide +kernel
theorem dX11_acknowledges_51 : decode cX11_acknowledges 51 = .ok (.iload_n 2, 1) := by decide +kernel
theorem dX11_acknowledges_52 : decode cX11_acknowledges 52 = .ok (.bipush 10, 2) := by decide +kernel
theorem dX11_acknowledges_54 : decode cX11_acknowledges 54 = .ok (.iadd, 1) := by decide +kernel
theorem dX11_acknowledges_55 : decode cX11_acknowledges 55 = .ok (.iaload, 1) := by decide +kernel
theorem dX11_acknowledges_56 : decode cX11_acknowledges 56 = .ok (.isub, 1) := by decide +kernel
theorem dX11_acknowledges_57 : decode cX11_acknowledges 57 = .ok (.istore_n 3, 1) := by decide +kernel
theorem dX11_acknowledges_58 : decode cX11_acknowledges 58 = .ok (.aload_n 0, 1) := by decide +kernel
theorem dX11_acknowledges_59 : decode cX11_acknowledges 59 = .ok (.getfield 7, 3) := by decide +kernel
theorem dX11_acknowledges_62 : decode cX11_acknowledges 62 = .ok (.iload_n 2, 1) := by decide +kernel
theorem dX11_acknowledges_63 : decode cX11_acknowledges 63 = .ok (.iconst 5, 1) := by decide +kernel
theorem dX11_acknowledges_64 : decode cX11_acknowledges 64 = .ok (.iadd, 1) := by decide +kernel
theorem dX11_acknowledges_65 : decode cX11_acknowledges 65 = .ok (.iconst 1, 1) := by decide +kernel
theorem dX11_acknowledges_66 : decode cX11_acknowledges 66 = .ok (.iastore, 1) := by decide +kernel
theorem dX11_acknowledges_67 : decode cX11_acknowledges 67 = .ok (.aload_n 0, 1) := by decide +kernel
theorem dX11_acknowledges_68 : decode cX11_acknowledges 68 = .ok (.getfield 7, 3) := by decide +kernel
theorem dX11_acknowledges_71 : decode cX11_acknowledges 71 = .ok (.bipush 11, 2) := by decide +kernel
theorem dX11_acknowledges_73 : decode cX11_acknowledges 73 = .ok (.dup2, 1) := by decide +kernel
theorem dX11_acknowledges_74 : decode cX11_acknowledges 74 = .ok (.iaload, 1) := by decide +kernel
theorem dX11_acknowledges_75 : decode cX11_acknowledges 75 = .ok (.iload_n 3, 1) := by decide +kernel
theorem dX11_acknowledges_76 : decode cX11_acknowledges 76 = .ok (.iadd, 1) := by decide +kernel
theorem dX11_acknowledges_77 : decode cX11_acknowledges 77 = .ok (.iastore, 1) := by decide +kernel
theorem dX11_acknowledges_78 : decode cX11_acknowledges 78 = .ok (.aload_n 0, 1) := by decide +kernel
theorem dX11_acknowledges_79 : decode cX11_acknowledges 79 = .ok (.getfield 7, 3) := by decide +kernel
theorem dX11_acknowledges_82 : decode cX11_acknowledges 82 = .ok (.bipush 12, 2) := by decide +kernel
theorem dX11_acknowledges_84 : decode cX11_acknowledges 84 = .ok (.dup2, 1) := by decide +kernel
theorem dX11_acknowledges_85 : decode cX11_acknowledges 85 = .ok (.iaload, 1) := by decide +kernel
theorem dX11_acknowledges_86 : decode cX11_acknowledges 86 = .ok (.iconst 1, 1) := by decide +kernel
theorem dX11_acknowledges_87 : decode cX11_acknowledges 87 = .ok (.iadd, 1) := by decide +kernel
theorem dX11_acknowledges_88 : decode cX11_acknowledges 88 = .ok (.iastore, 1) := by decide +kernel
theorem dX11_acknowledges_89 : decode cX11_acknowledges 89 = .ok (.iload_n 3, 1) := by decide +kernel
theorem dX11_acknowledges_90 : decode cX11_acknowledges 90 = .ok (.ireturn, 1) := by decide +kernel
theorem dX11_resolves_0 : decode cX11_resolves 0 = .ok (.aload_n 0, 1) := by decide +kernel
theorem dX11_resolves_1 : decode cX11_resolves 1 = .ok (.iload_n 1, 1) := by decide +kernel
theorem dX11_resolves_2 : decode cX11_resolves 2 = .ok (.invokevirtual 70, 3) := by decide +kernel
theorem dX11_resolves_5 : decode cX11_resolves 5 = .ok (.ifCond .ne 5, 3) := by decide +kernel
theorem dX11_resolves_8 : decode cX11_resolves 8 = .ok (.iconst (-1), 1) := by decide +kernel
theorem dX11_resolves_9 : decode cX11_resolves 9 = .ok (.ireturn, 1) := by decide +kernel
theorem dX11_resolves_10 : decode cX11_resolves 10 = .ok (.iload_n 1, 1) := by decide +kernel
theorem dX11_resolves_11 : decode cX11_resolves 11 = .ok (.invokestatic 36, 3) := by decide +kernel
theorem dX11_resolves_14 : decode cX11_resolves 14 = .ok (.istore_n 2, 1) := by decide +kernel
theorem dX11_resolves_15 : decode cX11_resolves 15 = .ok (.aload_n 0, 1) := by decide +kernel
theorem dX11_resolves_16 : decode cX11_resolves 16 = .ok (.getfield 7, 3) := by decide +kernel
theorem dX11_resolves_19 : decode cX11_resolves 19 = .ok (.iconst 2, 1) := by decide +kernel
theorem dX11_resolves_20 : decode cX11_resolves 20 = .ok (.iaload, 1) := by decide +kernel
theorem dX11_resolves_21 : decode cX11_resolves 21 = .ok (.aload_n 0, 1) := by decide +kernel
theorem dX11_resolves_22 : decode cX11_resolves 22 = .ok (.getfield 7, 3) := by decide +kernel
theorem dX11_resolves_25 : decode cX11_resolves 25 = .ok (.iload_n 2, 1) := by decide +kernel
theorem dX11_resolves_26 : decode cX11_resolves 26 = .ok (.bipush 7, 2) := by decide +kernel
theorem dX11_resolves_28 : decode cX11_resolves 28 = .ok (.iadd, 1) := by decide +kernel
theorem dX11_resolves_29 : decode cX11_resolves 29 = .ok (.iaload, 1) := by decide +kernel
theorem dX11_resolves_30 : decode cX11_resolves 30 = .ok (.isub, 1) := by decide +kernel
theorem dX11_resolves_31 : decode cX11_resolves 31 = .ok (.istore_n 3, 1) := by decide +kernel
theorem dX11_resolves_32 : decode cX11_resolves 32 = .ok (.aload_n 0, 1) := by decide +kernel
theorem dX11_resolves_33 : decode cX11_resolves 33 = .ok (.getfield 7, 3) := by decide +kernel
theorem dX11_resolves_36 : decode cX11_resolves 36 = .ok (.iload_n 2, 1) := by decide +kernel
theorem dX11_resolves_37 : decode cX11_resolves 37 = .ok (.iconst 4, 1) := by decide +kernel
theorem dX11_resolves_38 : decode cX11_resolves 38 = .ok (.iadd, 1) := by decide +kernel
theorem dX11_resolves_39 : decode cX11_resolves 39 = .ok (.iaload, 1) := by decide +kernel
theorem dX11_resolves_40 : decode cX11_resolves 40 = .ok (.ifCond .le 29, 3) := by decide +kernel
theorem dX11_resolves_43 : decode cX11_resolves 43 = .ok (.aload_n 0, 1) := by decide +kernel
theorem dX11_resolves_44 : decode cX11_resolves 44 = .ok (.getfield 7, 3) := by decide +kernel
theorem dX11_resolves_47 : decode cX11_resolves 47 = .ok (.bipush 16, 2) := by decide +kernel
theorem dX11_resolves_49 : decode cX11_resolves 49 = .ok (.iconst 5, 1) := by decide +kernel
theorem dX11_resolves_50 : decode cX11_resolves 50 = .ok (.aload_n 0, 1) := by decide +kernel
theorem dX11_resolves_51 : decode cX11_resolves 51 = .ok (.getfield 7, 3) := by decide +kernel
theorem dX11_resolves_54 : decode cX11_resolves 54 = .ok (.iload_n 2, 1) := by decide +kernel
theorem dX11_resolves_55 : decode cX11_resolves 55 = .ok (.iconst 4, 1) := by decide +kernel
theorem dX11_resolves_56 : decode cX11_resolves 56 = .ok (.iadd, 1) := by decide +kernel
theorem dX11_resolves_57 : decode cX11_resolves 57 = .ok (.iaload, 1) := by decide +kernel
theorem dX11_resolves_58 : decode cX11_resolves 58 = .ok (.iconst 1, 1) := by decide +kernel
theorem dX11_resolves_59 : decode cX11_resolves 59 = .ok (.isub, 1) := by decide +kernel
theorem dX11_resolves_60 : decode cX11_resolves 60 = .ok (.imul, 1) := by decide +kernel
theorem dX11_resolves_61 : decode cX11_resolves 61 = .ok (.iadd, 1) := by decide +kernel
theorem dX11_resolves_62 : decode cX11_resolves 62 = .ok (.iconst 4, 1) := by decide +kernel
theorem dX11_resolves_63 : decode cX11_resolves 63 = .ok (.iadd, 1) := by decide +kernel
theorem dX11_resolves_64 : decode cX11_resolves 64 = .ok (.dup2, 1) := by decide +kernel
theorem dX11_resolves_65 : decode cX11_resolves 65 = .ok (.iaload, 1) := by decide +kernel
theorem dX11_resolves_66 : decode cX11_resolves 66 = .ok (.iconst 1, 1) := by decide +kernel
theorem dX11_resolves_67 : decode cX11_resolves 67 = .ok (.iadd, 1) := by decide +kernel
theorem dX11_resolves_68 : decode cX11_resolves 68 = .ok (.iastore, 1) := by decide +kernel
theorem dX11_resolves_69 : decode cX11_resolves 69 = .ok (.aload_n 0, 1) := by decide +kernel
theorem dX11_resolves_70 : decode cX11_resolves 70 = .ok (.getfield 7, 3) := by decide +kernel
theorem dX11_resolves_73 : decode cX11_resolves 73 = .ok (.iload_n 2, 1) := by decide +kernel
theorem dX11_resolves_74 : decode cX11_resolves 74 = .ok (.iconst 0, 1) := by decide +kernel
theorem dX11_resolves_75 : decode cX11_resolves 75 = .ok (.iadd, 1) := by decide +kernel
theorem dX11_resolves_76 : decode cX11_resolves 76 = .ok (.iconst 0, 1) := by decide +kernel
theorem dX11_resolves_77 : decode cX11_resolves 77 = .ok (.iastore, 1) := by decide +kernel
theorem dX11_resolves_78 : decode cX11_resolves 78 = .ok (.aload_n 0, 1) := by decide +kernel
theorem dX11_resolves_79 : decode cX11_resolves 79 = .ok (.getfield 7, 3) := by decide +kernel
theorem dX11_resolves_82 : decode cX11_resolves 82 = .ok (.bipush 10, 2) := by decide +kernel
theorem dX11_resolves_84 : decode cX11_resolves 84 = .ok (.dup2, 1) := by decide +kernel
theorem dX11_resolves_85 : decode cX11_resolves 85 = .ok (.iaload, 1) := by decide +kernel
theorem dX11_resolves_86 : decode cX11_resolves 86 = .ok (.iload_n 3, 1) := by decide +kernel
theorem dX11_resolves_87 : decode cX11_resolves 87 = .ok (.iadd, 1) := by decide +kernel
theorem dX11_resolves_88 : decode cX11_resolves 88 = .ok (.iastore, 1) := by decide +kernel
theorem dX11_resolves_89 : decode cX11_resolves 89 = .ok (.aload_n 0, 1) := by decide +kernel
theorem dX11_resolves_90 : decode cX11_resolves 90 = .ok (.getfield 7, 3) := by decide +kernel
theorem dX11_resolves_93 : decode cX11_resolves 93 = .ok (.bipush 6, 2) := by decide +kernel
theorem dX11_resolves_95 : decode cX11_resolves 95 = .ok (.dup2, 1) := by decide +kernel
theorem dX11_resolves_96 : decode cX11_resolves 96 = .ok (.iaload, 1) := by decide +kernel
theorem dX11_resolves_97 : decode cX11_resolves 97 = .ok (.iconst 1, 1) := by decide +kernel
theorem dX11_resolves_98 : decode cX11_resolves 98 = .ok (.iadd, 1) := by decide +kernel
theorem dX11_resolves_99 : decode cX11_resolves 99 = .ok (.iastore, 1) := by decide +kernel
theorem dX11_resolves_100 : decode cX11_resolves 100 = .ok (.iload_n 3, 1) := by decide +kernel
theorem dX11_resolves_101 : decode cX11_resolves 101 = .ok (.ireturn, 1) := by decide +kernel
theorem dX11_passes_0 : decode cX11_passes 0 = .ok (.iload_n 1, 1) := by decide +kernel
theorem dX11_passes_1 : decode cX11_passes 1 = .ok (.iconst 1, 1) := by decide +kernel
theorem dX11_passes_2 : decode cX11_passes 2 = .ok (.sipush 600, 3) := by decide +kernel
theorem dX11_passes_5 : decode cX11_passes 5 = .ok (.invokestatic 32, 3) := by decide +kernel
theorem dX11_passes_8 : decode cX11_passes 8 = .ok (.ifCond .ne 5, 3) := by decide +kernel
theorem dX11_passes_11 : decode cX11_passes 11 = .ok (.iconst (-1), 1) := by decide +kernel
theorem dX11_passes_12 : decode cX11_passes 12 = .ok (.ireturn, 1) := by decide +kernel
theorem dX11_passes_13 : decode cX11_passes 13 = .ok (.aload_n 0, 1) := by decide +kernel
theorem dX11_passes_14 : decode cX11_passes 14 = .ok (.getfield 7, 3) := by decide +kernel
theorem dX11_passes_17 : decode cX11_passes 17 = .ok (.iconst 2, 1) := by decide +kernel
theorem dX11_passes_18 : decode cX11_passes 18 = .ok (.iaload, 1) := by decide +kernel
theorem dX11_passes_19 : decode cX11_passes 19 = .ok (.iload_n 1, 1) := by decide +kernel
theorem dX11_passes_20 : decode cX11_passes 20 = .ok (.iadd, 1) := by decide +kernel
theorem dX11_passes_21 : decode cX11_passes 21 = .ok (.sipush 30000, 3) := by decide +kernel
theorem dX11_passes_24 : decode cX11_passes 24 = .ok (.if_icmp .le 6, 3) := by decide +kernel
theorem dX11_passes_27 : decode cX11_passes 27 = .ok (.bipush (-3), 2) := by decide +kernel
theorem dX11_passes_29 : decode cX11_passes 29 = .ok (.ireturn, 1) := by decide +kernel
theorem dX11_passes_30 : decode cX11_passes 30 = .ok (.aload_n 0, 1) := by decide +kernel
theorem dX11_passes_31 : decode cX11_passes 31 = .ok (.getfield 7, 3) := by decide +kernel
theorem dX11_passes_34 : decode cX11_passes 34 = .ok (.iconst 5, 1) := by decide +kernel
theorem dX11_passes_35 : decode cX11_passes 35 = .ok (.iaload, 1) := by decide +kernel
theorem dX11_passes_36 : decode cX11_passes 36 = .ok (.istore_n 2, 1) := by decide +kernel
theorem dX11_passes_37 : decode cX11_passes 37 = .ok (.iconst 0, 1) := by decide +kernel
theorem dX11_passes_38 : decode cX11_passes 38 = .ok (.istore_n 3, 1) := by decide +kernel
theorem dX11_passes_39 : decode cX11_passes 39 = .ok (.iload_n 3, 1) := by decide +kernel
theorem dX11_passes_40 : decode cX11_passes 40 = .ok (.iload_n 1, 1) := by decide +kernel
theorem dX11_passes_41 : decode cX11_passes 41 = .ok (.if_icmp .ge 13, 3) := by decide +kernel
theorem dX11_passes_44 : decode cX11_passes 44 = .ok (.aload_n 0, 1) := by decide +kernel
theorem dX11_passes_45 : decode cX11_passes 45 = .ok (.invokevirtual 105, 3) := by decide +kernel
theorem dX11_passes_48 : decode cX11_passes 48 = .ok (.iinc 3 1, 3) := by decide +kernel
theorem dX11_passes_51 : decode cX11_passes 51 = .ok (.goto (-12), 3) := by decide +kernel
theorem dX11_passes_54 : decode cX11_passes 54 = .ok (.aload_n 0, 1) := by decide +kernel
theorem dX11_passes_55 : decode cX11_passes 55 = .ok (.getfield 7, 3) := by decide +kernel
theorem dX11_passes_58 : decode cX11_passes 58 = .ok (.iconst 5, 1) := by decide +kernel
theorem dX11_passes_59 : decode cX11_passes 59 = .ok (.iaload, 1) := by decide +kernel
theorem dX11_passes_60 : decode cX11_passes 60 = .ok (.iload_n 2, 1) := by decide +kernel
theorem dX11_passes_61 : decode cX11_passes 61 = .ok (.isub, 1) := by decide +kernel
theorem dX11_passes_62 : decode cX11_passes 62 = .ok (.ireturn, 1) := by decide +kernel
theorem dX11_sets_0 : decode cX11_sets 0 = .ok (.iload_n 1, 1) := by decide +kernel
theorem dX11_sets_1 : decode cX11_sets 1 = .ok (.iconst 0, 1) := by decide +kernel
theorem dX11_sets_2 : decode cX11_sets 2 = .ok (.iconst 1, 1) := by decide +kernel
theorem dX11_sets_3 : decode cX11_sets 3 = .ok (.invokestatic 32, 3) := by decide +kernel
theorem dX11_sets_6 : decode cX11_sets 6 = .ok (.ifCond .eq 31, 3) := by decide +kernel
theorem dX11_sets_9 : decode cX11_sets 9 = .ok (.iload_n 1, 1) := by decide +kernel
theorem dX11_sets_10 : decode cX11_sets 10 = .ok (.ifCond .ne 16, 3) := by decide +kernel
theorem dX11_sets_13 : decode cX11_sets 13 = .ok (.iload_n 2, 1) := by decide +kernel
theorem dX11_sets_14 : decode cX11_sets 14 = .ok (.iconst 1, 1) := by decide +kernel
theorem dX11_sets_15 : decode cX11_sets 15 = .ok (.bipush 120, 2) := by decide +kernel
theorem dX11_sets_17 : decode cX11_sets 17 = .ok (.invokestatic 32, 3) := by decide +kernel
theorem dX11_sets_20 : decode cX11_sets 20 = .ok (.ifCond .eq 17, 3) := by decide +kernel
theorem dX11_sets_23 : decode cX11_sets 23 = .ok (.goto 16, 3) := by decide +kernel
theorem dX11_sets_26 : decode cX11_sets 26 = .ok (.iload_n 2, 1) := by decide +kernel
theorem dX11_sets_27 : decode cX11_sets 27 = .ok (.iconst 0, 1) := by decide +kernel
theorem dX11_sets_28 : decode cX11_sets 28 = .ok (.sipush 600, 3) := by decide +kernel
theorem dX11_sets_31 : decode cX11_sets 31 = .ok (.invokestatic 32, 3) := by decide +kernel
theorem dX11_sets_34 : decode cX11_sets 34 = .ok (.ifCond .ne 5, 3) := by decide +kernel
theorem dX11_sets_37 : decode cX11_sets 37 = .ok (.iconst (-1), 1) := by decide +kernel
theorem dX11_sets_38 : decode cX11_sets 38 = .ok (.ireturn, 1) := by decide +kernel
theorem dX11_sets_39 : decode cX11_sets 39 = .ok (.aload_n 0, 1) := by decide +kernel
theorem dX11_sets_40 : decode cX11_sets 40 = .ok (.getfield 7, 3) := by decide +kernel
theorem dX11_sets_43 : decode cX11_sets 43 = .ok (.bipush 13, 2) := by decide +kernel
theorem dX11_sets_45 : decode cX11_sets 45 = .ok (.iload_n 1, 1) := by decide +kernel
theorem dX11_sets_46 : decode cX11_sets 46 = .ok (.iadd, 1) := by decide +kernel
theorem dX11_sets_47 : decode cX11_sets 47 = .ok (.iaload, 1) := by decide +kernel
theorem dX11_sets_48 : decode cX11_sets 48 = .ok (.istore_n 3, 1) := by decide +kernel
theorem dX11_sets_49 : decode cX11_sets 49 = .ok (.aload_n 0, 1) := by decide +kernel
theorem dX11_sets_50 : decode cX11_sets 50 = .ok (.getfield 7, 3) := by decide +kernel
theorem dX11_sets_53 : decode cX11_sets 53 = .ok (.bipush 13, 2) := by decide +kernel
theorem dX11_sets_55 : decode cX11_sets 55 = .ok (.iload_n 1, 1) := by decide +kernel
theorem dX11_sets_56 : decode cX11_sets 56 = .ok (.iadd, 1) := by decide +kernel
theorem dX11_sets_57 : decode cX11_sets 57 = .ok (.iload_n 2, 1) := by decide +kernel
theorem dX11_sets_58 : decode cX11_sets 58 = .ok (.iastore, 1) := by decide +kernel
theorem dX11_sets_59 : decode cX11_sets 59 = .ok (.iload_n 3, 1) := by decide +kernel
theorem dX11_sets_60 : decode cX11_sets 60 = .ok (.ireturn, 1) := by decide +kernel
theorem dX11_person_0 : decode cX11_person 0 = .ok (.aload_n 0, 1) := by decide +kernel
theorem dX11_person_1 : decode cX11_person 1 = .ok (.invokevirtual 108, 3) := by decide +kernel
theorem dX11_person_4 : decode cX11_person 4 = .ok (.aload_n 0, 1) := by decide +kernel
theorem dX11_person_5 : decode cX11_person 5 = .ok (.aload_n 0, 1) := by decide +kernel
theorem dX11_person_6 : decode cX11_person 6 = .ok (.invokevirtual 111, 3) := by decide +kernel
theorem dX11_person_9 : decode cX11_person 9 = .ok (.invokevirtual 114, 3) := by decide +kernel
theorem dX11_person_12 : decode cX11_person 12 = .ok (.ireturn, 1) := by decide +kernel
theorem dX11_region_0 : decode cX11_region 0 = .ok (.aload_n 0, 1) := by decide +kernel
theorem dX11_region_1 : decode cX11_region 1 = .ok (.invokevirtual 108, 3) := by decide +kernel
theorem dX11_region_4 : decode cX11_region 4 = .ok (.aload_n 0, 1) := by decide +kernel
theorem dX11_region_5 : decode cX11_region 5 = .ok (.aload_n 0, 1) := by decide +kernel
theorem dX11_region_6 : decode cX11_region 6 = .ok (.iload_n 1, 1) := by decide +kernel
theorem dX11_region_7 : decode cX11_region 7 = .ok (.iload_n 2, 1) := by decide +kernel
theorem dX11_region_8 : decode cX11_region 8 = .ok (.iload_n 3, 1) := by decide +kernel
theorem dX11_region_9 : decode cX11_region 9 = .ok (.invokevirtual 117, 3) := by decide +kernel
theorem dX11_region_12 : decode cX11_region 12 = .ok (.invokevirtual 114, 3) := by decide +kernel
theorem dX11_region_15 : decode cX11_region 15 = .ok (.ireturn, 1) := by decide +kernel
theorem dX11_join_0 : decode cX11_join 0 = .ok (.aload_n 0, 1) := by decide +kernel
theorem dX11_join_1 : decode cX11_join 1 = .ok (.invokevirtual 108, 3) := by decide +kernel
theorem dX11_join_4 : decode cX11_join 4 = .ok (.aload_n 0, 1) := by decide +kernel
theorem dX11_join_5 : decode cX11_join 5 = .ok (.aload_n 0, 1) := by decide +kernel
theorem dX11_join_6 : decode cX11_join 6 = .ok (.iload_n 1, 1) := by decide +kernel
theorem dX11_join_7 : decode cX11_join 7 = .ok (.iload_n 2, 1) := by decide +kernel
theorem dX11_join_8 : decode cX11_join 8 = .ok (.invokevirtual 121, 3) := by decide +kernel
theorem dX11_join_11 : decode cX11_join 11 = .ok (.invokevirtual 114, 3) := by decide +kernel
theorem dX11_join_14 : decode cX11_join 14 = .ok (.ireturn, 1) := by decide +kernel
theorem dX11_leave_0 : decode cX11_leave 0 = .ok (.aload_n 0, 1) := by decide +kernel
theorem dX11_leave_1 : decode cX11_leave 1 = .ok (.invokevirtual 108, 3) := by decide +kernel
theorem dX11_leave_4 : decode cX11_leave 4 = .ok (.aload_n 0, 1) := by decide +kernel
theorem dX11_leave_5 : decode cX11_leave 5 = .ok (.aload_n 0, 1) := by decide +kernel
theorem dX11_leave_6 : decode cX11_leave 6 = .ok (.iload_n 1, 1) := by decide +kernel
theorem dX11_leave_7 : decode cX11_leave 7 = .ok (.iload_n 2, 1) := by decide +kernel
theorem dX11_leave_8 : decode cX11_leave 8 = .ok (.invokevirtual 124, 3) := by decide +kernel
theorem dX11_leave_11 : decode cX11_leave 11 = .ok (.invokevirtual 114, 3) := by decide +kernel
theorem dX11_leave_14 : decode cX11_leave 14 = .ok (.ireturn, 1) := by decide +kernel
theorem dX11_quiet_0 : decode cX11_quiet 0 = .ok (.aload_n 0, 1) := by decide +kernel
theorem dX11_quiet_1 : decode cX11_quiet 1 = .ok (.invokevirtual 108, 3) := by decide +kernel
theorem dX11_quiet_4 : decode cX11_quiet 4 = .ok (.aload_n 0, 1) := by decide +kernel
theorem dX11_quiet_5 : decode cX11_quiet 5 = .ok (.aload_n 0, 1) := by decide +kernel
theorem dX11_quiet_6 : decode cX11_quiet 6 = .ok (.iload_n 1, 1) := by decide +kernel
theorem dX11_quiet_7 : decode cX11_quiet 7 = .ok (.iload_n 2, 1) := by decide +kernel
theorem dX11_quiet_8 : decode cX11_quiet 8 = .ok (.iload_n 3, 1) := by decide +kernel
theorem dX11_quiet_9 : decode cX11_quiet 9 = .ok (.invokevirtual 127, 3) := by decide +kernel
theorem dX11_quiet_12 : decode cX11_quiet 12 = .ok (.invokevirtual 114, 3) := by decide +kernel
theorem dX11_quiet_15 : decode cX11_quiet 15 = .ok (.ireturn, 1) := by decide +kernel
theorem dX11_except_0 : decode cX11_except 0 = .ok (.aload_n 0, 1) := by decide +kernel
theorem dX11_except_1 : decode cX11_except 1 = .ok (.invokevirtual 108, 3) := by decide +kernel
theorem dX11_except_4 : decode cX11_except 4 = .ok (.aload_n 0, 1) := by decide +kernel
theorem dX11_except_5 : decode cX11_except 5 = .ok (.aload_n 0, 1) := by decide +kernel
theorem dX11_except_6 : decode cX11_except 6 = .ok (.iload_n 1, 1) := by decide +kernel
theorem dX11_except_7 : decode cX11_except 7 = .ok (.iload_n 2, 1) := by decide +kernel
theorem dX11_except_8 : decode cX11_except 8 = .ok (.invokevirtual 130, 3) := by decide +kernel
theorem dX11_except_11 : decode cX11_except 11 = .ok (.invokevirtual 114, 3) := by decide +kernel
theorem dX11_except_14 : decode cX11_except 14 = .ok (.ireturn, 1) := by decide +kernel
theorem dX11_override_0 : decode cX11_override 0 = .ok (.aload_n 0, 1) := by decide +kernel
theorem dX11_override_1 : decode cX11_override 1 = .ok (.invokevirtual 108, 3) := by decide +kernel
theorem dX11_override_4 : decode cX11_override 4 = .ok (.aload_n 0, 1) := by decide +kernel
theorem dX11_override_5 : decode cX11_override 5 = .ok (.aload_n 0, 1) := by decide +kernel
theorem dX11_override_6 : decode cX11_override 6 = .ok (.iload_n 1, 1) := by decide +kernel
theorem dX11_override_7 : decode cX11_override 7 = .ok (.iload_n 2, 1) := by decide +kernel
theorem dX11_override_8 : decode cX11_override 8 = .ok (.iload_n 3, 1) := by decide +kernel
theorem dX11_override_9 : decode cX11_override 9 = .ok (.invokevirtual 133, 3) := by decide +kernel
theorem dX11_override_12 : decode cX11_override 12 = .ok (.invokevirtual 114, 3) := by decide +kernel
theorem dX11_override_15 : decode cX11_override 15 = .ok (.ireturn, 1) := by decide +kernel
theorem dX11_alert_0 : decode cX11_alert 0 = .ok (.aload_n 0, 1) := by decide +kernel
theorem dX11_alert_1 : decode cX11_alert 1 = .ok (.invokevirtual 108, 3) := by decide +kernel
theorem dX11_alert_4 : decode cX11_alert 4 = .ok (.aload_n 0, 1) := by decide +kernel
theorem dX11_alert_5 : decode cX11_alert 5 = .ok (.aload_n 0, 1) := by decide +kernel
theorem dX11_alert_6 : decode cX11_alert 6 = .ok (.iload_n 1, 1) := by decide +kernel
theorem dX11_alert_7 : decode cX11_alert 7 = .ok (.iload_n 2, 1) := by decide +kernel
theorem dX11_alert_8 : decode cX11_alert 8 = .ok (.invokevirtual 136, 3) := by decide +kernel
theorem dX11_alert_11 : decode cX11_alert 11 = .ok (.invokevirtual 114, 3) := by decide +kernel
theorem dX11_alert_14 : decode cX11_alert 14 = .ok (.ireturn, 1) := by decide +kernel
theorem dX11_acknowledge_0 : decode cX11_acknowledge 0 = .ok (.aload_n 0, 1) := by decide +kernel
theorem dX11_acknowledge_1 : decode cX11_acknowledge 1 = .ok (.invokevirtual 108, 3) := by decide +kernel
theorem dX11_acknowledge_4 : decode cX11_acknowledge 4 = .ok (.aload_n 0, 1) := by decide +kernel
theorem dX11_acknowledge_5 : decode cX11_acknowledge 5 = .ok (.aload_n 0, 1) := by decide +kernel
theorem dX11_acknowledge_6 : decode cX11_acknowledge 6 = .ok (.iload_n 1, 1) := by decide +kernel
theorem dX11_acknowledge_7 : decode cX11_acknowledge 7 = .ok (.invokevirtual 139, 3) := by decide +kernel
theorem dX11_acknowledge_10 : decode cX11_acknowledge 10 = .ok (.invokevirtual 114, 3) := by decide +kernel
theorem dX11_acknowledge_13 : decode cX11_acknowledge 13 = .ok (.ireturn, 1) := by decide +kernel
theorem dX11_resolve_0 : decode cX11_resolve 0 = .ok (.aload_n 0, 1) := by decide +kernel
theorem dX11_resolve_1 : decode cX11_resolve 1 = .ok (.invokevirtual 108, 3) := by decide +kernel
theorem dX11_resolve_4 : decode cX11_resolve 4 = .ok (.aload_n 0, 1) := by decide +kernel
theorem dX11_resolve_5 : decode cX11_resolve 5 = .ok (.aload_n 0, 1) := by decide +kernel
theorem dX11_resolve_6 : decode cX11_resolve 6 = .ok (.iload_n 1, 1) := by decide +kernel
theorem dX11_resolve_7 : decode cX11_resolve 7 = .ok (.invokevirtual 142, 3) := by decide +kernel
theorem dX11_resolve_10 : decode cX11_resolve 10 = .ok (.invokevirtual 114, 3) := by decide +kernel
theorem dX11_resolve_13 : decode cX11_resolve 13 = .ok (.ireturn, 1) := by decide +kernel
theorem dX11_pass_0 : decode cX11_pass 0 = .ok (.aload_n 0, 1) := by decide +kernel
theorem dX11_pass_1 : decode cX11_pass 1 = .ok (.invokevirtual 108, 3) := by decide +kernel
theorem dX11_pass_4 : decode cX11_pass 4 = .ok (.aload_n 0, 1) := by decide +kernel
theorem dX11_pass_5 : decode cX11_pass 5 = .ok (.aload_n 0, 1) := by decide +kernel
theorem dX11_pass_6 : decode cX11_pass 6 = .ok (.iload_n 1, 1) := by decide +kernel
theorem dX11_pass_7 : decode cX11_pass 7 = .ok (.invokevirtual 145, 3) := by decide +kernel
theorem dX11_pass_10 : decode cX11_pass 10 = .ok (.invokevirtual 114, 3) := by decide +kernel
theorem dX11_pass_13 : decode cX11_pass 13 = .ok (.ireturn, 1) := by decide +kernel
theorem dX11_set_0 : decode cX11_set 0 = .ok (.aload_n 0, 1) := by decide +kernel
theorem dX11_set_1 : decode cX11_set 1 = .ok (.invokevirtual 108, 3) := by decide +kernel
theorem dX11_set_4 : decode cX11_set 4 = .ok (.aload_n 0, 1) := by decide +kernel
theorem dX11_set_5 : decode cX11_set 5 = .ok (.aload_n 0, 1) := by decide +kernel
theorem dX11_set_6 : decode cX11_set 6 = .ok (.iload_n 1, 1) := by decide +kernel
theorem dX11_set_7 : decode cX11_set 7 = .ok (.iload_n 2, 1) := by decide +kernel
theorem dX11_set_8 : decode cX11_set 8 = .ok (.invokevirtual 148, 3) := by decide +kernel
theorem dX11_set_11 : decode cX11_set 11 = .ok (.invokevirtual 114, 3) := by decide +kernel
theorem dX11_set_14 : decode cX11_set 14 = .ok (.ireturn, 1) := by decide +kernel
theorem dX11_rotaAt_0 : decode cX11_rotaAt 0 = .ok (.aload_n 0, 1) := by decide +kernel
theorem dX11_rotaAt_1 : decode cX11_rotaAt 1 = .ok (.iload_n 1, 1) := by decide +kernel
theorem dX11_rotaAt_2 : decode cX11_rotaAt 2 = .ok (.invokevirtual 77, 3) := by decide +kernel
theorem dX11_rotaAt_5 : decode cX11_rotaAt 5 = .ok (.ifCond .eq 7, 3) := by decide +kernel
theorem dX11_rotaAt_8 : decode cX11_rotaAt 8 = .ok (.iload_n 2, 1) := by decide +kernel
theorem dX11_rotaAt_9 : decode cX11_rotaAt 9 = .ok (.ifCond .ge 5, 3) := by decide +kernel
theorem dX11_rotaAt_12 : decode cX11_rotaAt 12 = .ok (.iconst (-1), 1) := by decide +kernel
theorem dX11_rotaAt_13 : decode cX11_rotaAt 13 = .ok (.ireturn, 1) := by decide +kernel
theorem dX11_rotaAt_14 : decode cX11_rotaAt 14 = .ok (.iload_n 2, 1) := by decide +kernel
theorem dX11_rotaAt_15 : decode cX11_rotaAt 15 = .ok (.aload_n 0, 1) := by decide +kernel
theorem dX11_rotaAt_16 : decode cX11_rotaAt 16 = .ok (.iload_n 1, 1) := by decide +kernel
theorem dX11_rotaAt_17 : decode cX11_rotaAt 17 = .ok (.iconst 3, 1) := by decide +kernel
theorem dX11_rotaAt_18 : decode cX11_rotaAt 18 = .ok (.invokevirtual 40, 3) := by decide +kernel
theorem dX11_rotaAt_21 : decode cX11_rotaAt 21 = .ok (.if_icmp .ge 14, 3) := by decide +kernel
theorem dX11_rotaAt_24 : decode cX11_rotaAt 24 = .ok (.aload_n 0, 1) := by decide +kernel
theorem dX11_rotaAt_25 : decode cX11_rotaAt 25 = .ok (.iload_n 1, 1) := by decide +kernel
theorem dX11_rotaAt_26 : decode cX11_rotaAt 26 = .ok (.iconst 4, 1) := by decide +kernel
theorem dX11_rotaAt_27 : decode cX11_rotaAt 27 = .ok (.iload_n 2, 1) := by decide +kernel
theorem dX11_rotaAt_28 : decode cX11_rotaAt 28 = .ok (.iadd, 1) := by decide +kernel
theorem dX11_rotaAt_29 : decode cX11_rotaAt 29 = .ok (.invokevirtual 40, 3) := by decide +kernel
theorem dX11_rotaAt_32 : decode cX11_rotaAt 32 = .ok (.goto 5, 3) := by decide +kernel
theorem dX11_rotaAt_35 : decode cX11_rotaAt 35 = .ok (.bipush (-4), 2) := by decide +kernel
theorem dX11_rotaAt_37 : decode cX11_rotaAt 37 = .ok (.ireturn, 1) := by decide +kernel
theorem dX11_ownedBy_0 : decode cX11_ownedBy 0 = .ok (.iconst 0, 1) := by decide +kernel
theorem dX11_ownedBy_1 : decode cX11_ownedBy 1 = .ok (.istore_n 3, 1) := by decide +kernel
theorem dX11_ownedBy_2 : decode cX11_ownedBy 2 = .ok (.iconst 0, 1) := by decide +kernel
theorem dX11_ownedBy_3 : decode cX11_ownedBy 3 = .ok (.istore 4, 2) := by decide +kernel
theorem dX11_ownedBy_5 : decode cX11_ownedBy 5 = .ok (.iload 4, 2) := by decide +kernel
theorem dX11_ownedBy_7 : decode cX11_ownedBy 7 = .ok (.bipush 8, 2) := by decide +kernel
theorem dX11_ownedBy_9 : decode cX11_ownedBy 9 = .ok (.if_icmp .ge 65, 3) := by decide +kernel
theorem dX11_ownedBy_12 : decode cX11_ownedBy 12 = .ok (.iload 4, 2) := by decide +kernel
theorem dX11_ownedBy_14 : decode cX11_ownedBy 14 = .ok (.invokestatic 36, 3) := by decide +kernel
theorem dX11_ownedBy_17 : decode cX11_ownedBy 17 = .ok (.istore 5, 2) := by decide +kernel
theorem dX11_ownedBy_19 : decode cX11_ownedBy 19 = .ok (.iload_n 3, 1) := by decide +kernel
theorem dX11_ownedBy_20 : decode cX11_ownedBy 20 = .ok (.aload_n 0, 1) := by decide +kernel
theorem dX11_ownedBy_21 : decode cX11_ownedBy 21 = .ok (.iload 4, 2) := by decide +kernel
theorem dX11_ownedBy_23 : decode cX11_ownedBy 23 = .ok (.invokevirtual 70, 3) := by decide +kernel
theorem dX11_ownedBy_26 : decode cX11_ownedBy 26 = .ok (.ifCond .eq 39, 3) := by decide +kernel
theorem dX11_ownedBy_29 : decode cX11_ownedBy 29 = .ok (.aload_n 0, 1) := by decide +kernel
theorem dX11_ownedBy_30 : decode cX11_ownedBy 30 = .ok (.getfield 7, 3) := by decide +kernel
theorem dX11_ownedBy_33 : decode cX11_ownedBy 33 = .ok (.iload 5, 2) := by decide +kernel
theorem dX11_ownedBy_35 : decode cX11_ownedBy 35 = .ok (.iconst 4, 1) := by decide +kernel
theorem dX11_ownedBy_36 : decode cX11_ownedBy 36 = .ok (.iadd, 1) := by decide +kernel
theorem dX11_ownedBy_37 : decode cX11_ownedBy 37 = .ok (.iaload, 1) := by decide +kernel
theorem dX11_ownedBy_38 : decode cX11_ownedBy 38 = .ok (.iload_n 1, 1) := by decide +kernel
theorem dX11_ownedBy_39 : decode cX11_ownedBy 39 = .ok (.iconst 1, 1) := by decide +kernel
theorem dX11_ownedBy_40 : decode cX11_ownedBy 40 = .ok (.iadd, 1) := by decide +kernel
theorem dX11_ownedBy_41 : decode cX11_ownedBy 41 = .ok (.if_icmp .ne 24, 3) := by decide +kernel
theorem dX11_ownedBy_44 : decode cX11_ownedBy 44 = .ok (.iload_n 2, 1) := by decide +kernel
theorem dX11_ownedBy_45 : decode cX11_ownedBy 45 = .ok (.ifCond .eq 16, 3) := by decide +kernel
theorem dX11_ownedBy_48 : decode cX11_ownedBy 48 = .ok (.aload_n 0, 1) := by decide +kernel
theorem dX11_ownedBy_49 : decode cX11_ownedBy 49 = .ok (.getfield 7, 3) := by decide +kernel
theorem dX11_ownedBy_52 : decode cX11_ownedBy 52 = .ok (.iload 5, 2) := by decide +kernel
theorem dX11_ownedBy_54 : decode cX11_ownedBy 54 = .ok (.iconst 5, 1) := by decide +kernel
theorem dX11_ownedBy_55 : decode cX11_ownedBy 55 = .ok (.iadd, 1) := by decide +kernel
theorem dX11_ownedBy_56 : decode cX11_ownedBy 56 = .ok (.iaload, 1) := by decide +kernel
theorem dX11_ownedBy_57 : decode cX11_ownedBy 57 = .ok (.iconst 1, 1) := by decide +kernel
theorem dX11_ownedBy_58 : decode cX11_ownedBy 58 = .ok (.if_icmp .ne 7, 3) := by decide +kernel
theorem dX11_ownedBy_61 : decode cX11_ownedBy 61 = .ok (.iconst 1, 1) := by decide +kernel
theorem dX11_ownedBy_62 : decode cX11_ownedBy 62 = .ok (.goto 4, 3) := by decide +kernel
theorem dX11_ownedBy_65 : decode cX11_ownedBy 65 = .ok (.iconst 0, 1) := by decide +kernel
theorem dX11_ownedBy_66 : decode cX11_ownedBy 66 = .ok (.iadd, 1) := by decide +kernel
theorem dX11_ownedBy_67 : decode cX11_ownedBy 67 = .ok (.istore_n 3, 1) := by decide +kernel
theorem dX11_ownedBy_68 : decode cX11_ownedBy 68 = .ok (.iinc 4 1, 3) := by decide +kernel
theorem dX11_ownedBy_71 : decode cX11_ownedBy 71 = .ok (.goto (-66), 3) := by decide +kernel
theorem dX11_ownedBy_74 : decode cX11_ownedBy 74 = .ok (.iload_n 3, 1) := by decide +kernel
theorem dX11_ownedBy_75 : decode cX11_ownedBy 75 = .ok (.ireturn, 1) := by decide +kernel
theorem dX11_rotasOf_0 : decode cX11_rotasOf 0 = .ok (.iconst 0, 1) := by decide +kernel
theorem dX11_rotasOf_1 : decode cX11_rotasOf 1 = .ok (.istore_n 2, 1) := by decide +kernel
theorem dX11_rotasOf_2 : decode cX11_rotasOf 2 = .ok (.iconst 0, 1) := by decide +kernel
theorem dX11_rotasOf_3 : decode cX11_rotasOf 3 = .ok (.istore_n 3, 1) := by decide +kernel
theorem dX11_rotasOf_4 : decode cX11_rotasOf 4 = .ok (.iload_n 3, 1) := by decide +kernel
theorem dX11_rotasOf_5 : decode cX11_rotasOf 5 = .ok (.aload_n 0, 1) := by decide +kernel
theorem dX11_rotasOf_6 : decode cX11_rotasOf 6 = .ok (.getfield 7, 3) := by decide +kernel
theorem dX11_rotasOf_9 : decode cX11_rotasOf 9 = .ok (.iconst 1, 1) := by decide +kernel
theorem dX11_rotasOf_10 : decode cX11_rotasOf 10 = .ok (.iaload, 1) := by decide +kernel
theorem dX11_rotasOf_11 : decode cX11_rotasOf 11 = .ok (.if_icmp .ge 28, 3) := by decide +kernel
theorem dX11_rotasOf_14 : decode cX11_rotasOf 14 = .ok (.iload_n 2, 1) := by decide +kernel
theorem dX11_rotasOf_15 : decode cX11_rotasOf 15 = .ok (.aload_n 0, 1) := by decide +kernel
theorem dX11_rotasOf_16 : decode cX11_rotasOf 16 = .ok (.iload_n 3, 1) := by decide +kernel
theorem dX11_rotasOf_17 : decode cX11_rotasOf 17 = .ok (.iload_n 1, 1) := by decide +kernel
theorem dX11_rotasOf_18 : decode cX11_rotasOf 18 = .ok (.invokevirtual 83, 3) := by decide +kernel
theorem dX11_rotasOf_21 : decode cX11_rotasOf 21 = .ok (.ifCond .lt 9, 3) := by decide +kernel
theorem dX11_rotasOf_24 : decode cX11_rotasOf 24 = .ok (.iconst 1, 1) := by decide +kernel
theorem dX11_rotasOf_25 : decode cX11_rotasOf 25 = .ok (.iload_n 3, 1) := by decide +kernel
theorem dX11_rotasOf_26 : decode cX11_rotasOf 26 = .ok (.ishl, 1) := by decide +kernel
theorem dX11_rotasOf_27 : decode cX11_rotasOf 27 = .ok (.goto 4, 3) := by decide +kernel
theorem dX11_rotasOf_30 : decode cX11_rotasOf 30 = .ok (.iconst 0, 1) := by decide +kernel
theorem dX11_rotasOf_31 : decode cX11_rotasOf 31 = .ok (.ior, 1) := by decide +kernel
theorem dX11_rotasOf_32 : decode cX11_rotasOf 32 = .ok (.istore_n 2, 1) := by decide +kernel
theorem dX11_rotasOf_33 : decode cX11_rotasOf 33 = .ok (.iinc 3 1, 3) := by decide +kernel
theorem dX11_rotasOf_36 : decode cX11_rotasOf 36 = .ok (.goto (-32), 3) := by decide +kernel
theorem dX11_rotasOf_39 : decode cX11_rotasOf 39 = .ok (.iload_n 2, 1) := by decide +kernel
theorem dX11_rotasOf_40 : decode cX11_rotasOf 40 = .ok (.ireturn, 1) := by decide +kernel
theorem dX11_personOf_0 : decode cX11_personOf 0 = .ok (.aload_n 0, 1) := by decide +kernel
theorem dX11_personOf_1 : decode cX11_personOf 1 = .ok (.iload_n 1, 1) := by decide +kernel
theorem dX11_personOf_2 : decode cX11_personOf 2 = .ok (.invokevirtual 80, 3) := by decide +kernel
theorem dX11_personOf_5 : decode cX11_personOf 5 = .ok (.ifCond .eq 13, 3) := by decide +kernel
theorem dX11_personOf_8 : decode cX11_personOf 8 = .ok (.iload_n 2, 1) := by decide +kernel
theorem dX11_personOf_9 : decode cX11_personOf 9 = .ok (.iconst 0, 1) := by decide +kernel
theorem dX11_personOf_10 : decode cX11_personOf 10 = .ok (.bipush 6, 2) := by decide +kernel
theorem dX11_personOf_12 : decode cX11_personOf 12 = .ok (.invokestatic 32, 3) := by decide +kernel
theorem dX11_personOf_15 : decode cX11_personOf 15 = .ok (.ifCond .ne 5, 3) := by decide +kernel
theorem dX11_personOf_18 : decode cX11_personOf 18 = .ok (.iconst (-1), 1) := by decide +kernel
theorem dX11_personOf_19 : decode cX11_personOf 19 = .ok (.ireturn, 1) := by decide +kernel
theorem dX11_personOf_20 : decode cX11_personOf 20 = .ok (.iload_n 2, 1) := by decide +kernel
theorem dX11_personOf_21 : decode cX11_personOf 21 = .ok (.tableswitch 95 0 5 #[39, 46, 46, 62, 69, 75], 39) := by decide +kernel
theorem dX11_personOf_60 : decode cX11_personOf 60 = .ok (.aload_n 0, 1) := by decide +kernel
theorem dX11_personOf_61 : decode cX11_personOf 61 = .ok (.iload_n 1, 1) := by decide +kernel
theorem dX11_personOf_62 : decode cX11_personOf 62 = .ok (.iconst 3, 1) := by decide +kernel
theorem dX11_personOf_63 : decode cX11_personOf 63 = .ok (.invokevirtual 54, 3) := by decide +kernel
theorem dX11_personOf_66 : decode cX11_personOf 66 = .ok (.ireturn, 1) := by decide +kernel
theorem dX11_personOf_67 : decode cX11_personOf 67 = .ok (.aload_n 0, 1) := by decide +kernel
theorem dX11_personOf_68 : decode cX11_personOf 68 = .ok (.iload_n 1, 1) := by decide +kernel
theorem dX11_personOf_69 : decode cX11_personOf 69 = .ok (.iload_n 2, 1) := by decide +kernel
theorem dX11_personOf_70 : decode cX11_personOf 70 = .ok (.iconst 2, 1) := by decide +kernel
theorem dX11_personOf_71 : decode cX11_personOf 71 = .ok (.if_icmp .ne 7, 3) := by decide +kernel
theorem dX11_personOf_74 : decode cX11_personOf 74 = .ok (.iconst 1, 1) := by decide +kernel
theorem dX11_personOf_75 : decode cX11_personOf 75 = .ok (.goto 4, 3) := by decide +kernel
theorem dX11_personOf_78 : decode cX11_personOf 78 = .ok (.iconst 0, 1) := by decide +kernel
theorem dX11_personOf_79 : decode cX11_personOf 79 = .ok (.invokevirtual 151, 3) := by decide +kernel
theorem dX11_personOf_82 : decode cX11_personOf 82 = .ok (.ireturn, 1) := by decide +kernel
theorem dX11_personOf_83 : decode cX11_personOf 83 = .ok (.aload_n 0, 1) := by decide +kernel
theorem dX11_personOf_84 : decode cX11_personOf 84 = .ok (.iload_n 1, 1) := by decide +kernel
theorem dX11_personOf_85 : decode cX11_personOf 85 = .ok (.iconst 4, 1) := by decide +kernel
theorem dX11_personOf_86 : decode cX11_personOf 86 = .ok (.invokevirtual 54, 3) := by decide +kernel
theorem dX11_personOf_89 : decode cX11_personOf 89 = .ok (.ireturn, 1) := by decide +kernel
theorem dX11_personOf_90 : decode cX11_personOf 90 = .ok (.aload_n 0, 1) := by decide +kernel
theorem dX11_personOf_91 : decode cX11_personOf 91 = .ok (.iload_n 1, 1) := by decide +kernel
theorem dX11_personOf_92 : decode cX11_personOf 92 = .ok (.invokevirtual 155, 3) := by decide +kernel
theorem dX11_personOf_95 : decode cX11_personOf 95 = .ok (.ireturn, 1) := by decide +kernel
theorem dX11_personOf_96 : decode cX11_personOf 96 = .ok (.aload_n 0, 1) := by decide +kernel
theorem dX11_personOf_97 : decode cX11_personOf 97 = .ok (.iload_n 1, 1) := by decide +kernel
theorem dX11_personOf_98 : decode cX11_personOf 98 = .ok (.aload_n 0, 1) := by decide +kernel
theorem dX11_personOf_99 : decode cX11_personOf 99 = .ok (.getfield 7, 3) := by decide +kernel
theorem dX11_personOf_102 : decode cX11_personOf 102 = .ok (.iconst 2, 1) := by decide +kernel
theorem dX11_personOf_103 : decode cX11_personOf 103 = .ok (.iaload, 1) := by decide +kernel
theorem dX11_personOf_104 : decode cX11_personOf 104 = .ok (.invokevirtual 60, 3) := by decide +kernel
theorem dX11_personOf_107 : decode cX11_personOf 107 = .ok (.ifCond .eq 7, 3) := by decide +kernel
theorem dX11_personOf_110 : decode cX11_personOf 110 = .ok (.iconst 1, 1) := by decide +kernel
theorem dX11_personOf_111 : decode cX11_personOf 111 = .ok (.goto 4, 3) := by decide +kernel
theorem dX11_personOf_114 : decode cX11_personOf 114 = .ok (.iconst 0, 1) := by decide +kernel
theorem dX11_personOf_115 : decode cX11_personOf 115 = .ok (.ireturn, 1) := by decide +kernel
theorem dX11_personOf_116 : decode cX11_personOf 116 = .ok (.aload_n 0, 1) := by decide +kernel
theorem dX11_personOf_117 : decode cX11_personOf 117 = .ok (.iload_n 1, 1) := by decide +kernel
theorem dX11_personOf_118 : decode cX11_personOf 118 = .ok (.iconst 2, 1) := by decide +kernel
theorem dX11_personOf_119 : decode cX11_personOf 119 = .ok (.invokevirtual 54, 3) := by decide +kernel
theorem dX11_personOf_122 : decode cX11_personOf 122 = .ok (.ireturn, 1) := by decide +kernel
theorem dX11_incidentOf_0 : decode cX11_incidentOf 0 = .ok (.aload_n 0, 1) := by decide +kernel
theorem dX11_incidentOf_1 : decode cX11_incidentOf 1 = .ok (.iload_n 1, 1) := by decide +kernel
theorem dX11_incidentOf_2 : decode cX11_incidentOf 2 = .ok (.invokevirtual 70, 3) := by decide +kernel
theorem dX11_incidentOf_5 : decode cX11_incidentOf 5 = .ok (.ifCond .eq 13, 3) := by decide +kernel
theorem dX11_incidentOf_8 : decode cX11_incidentOf 8 = .ok (.iload_n 2, 1) := by decide +kernel
theorem dX11_incidentOf_9 : decode cX11_incidentOf 9 = .ok (.iconst 0, 1) := by decide +kernel
theorem dX11_incidentOf_10 : decode cX11_incidentOf 10 = .ok (.bipush 11, 2) := by decide +kernel
theorem dX11_incidentOf_12 : decode cX11_incidentOf 12 = .ok (.invokestatic 32, 3) := by decide +kernel
theorem dX11_incidentOf_15 : decode cX11_incidentOf 15 = .ok (.ifCond .ne 5, 3) := by decide +kernel
theorem dX11_incidentOf_18 : decode cX11_incidentOf 18 = .ok (.iconst (-1), 1) := by decide +kernel
theorem dX11_incidentOf_19 : decode cX11_incidentOf 19 = .ok (.ireturn, 1) := by decide +kernel
theorem dX11_incidentOf_20 : decode cX11_incidentOf 20 = .ok (.iload_n 1, 1) := by decide +kernel
theorem dX11_incidentOf_21 : decode cX11_incidentOf 21 = .ok (.invokestatic 36, 3) := by decide +kernel
theorem dX11_incidentOf_24 : decode cX11_incidentOf 24 = .ok (.istore_n 3, 1) := by decide +kernel
theorem dX11_incidentOf_25 : decode cX11_incidentOf 25 = .ok (.iload_n 2, 1) := by decide +kernel
theorem dX11_incidentOf_26 : decode cX11_incidentOf 26 = .ok (.tableswitch 124 3 11 #[50, 124, 124, 124, 124, 124, 77, 104, 114], 50) := by decide +kernel
theorem dX11_incidentOf_76 : decode cX11_incidentOf 76 = .ok (.aload_n 0, 1) := by decide +kernel
theorem dX11_incidentOf_77 : decode cX11_incidentOf 77 = .ok (.getfield 7, 3) := by decide +kernel
theorem dX11_incidentOf_80 : decode cX11_incidentOf 80 = .ok (.iload_n 3, 1) := by decide +kernel
theorem dX11_incidentOf_81 : decode cX11_incidentOf 81 = .ok (.iconst 4, 1) := by decide +kernel
theorem dX11_incidentOf_82 : decode cX11_incidentOf 82 = .ok (.iadd, 1) := by decide +kernel
theorem dX11_incidentOf_83 : decode cX11_incidentOf 83 = .ok (.iaload, 1) := by decide +kernel
theorem dX11_incidentOf_84 : decode cX11_incidentOf 84 = .ok (.ifCond .ne 8, 3) := by decide +kernel
theorem dX11_incidentOf_87 : decode cX11_incidentOf 87 = .ok (.bipush (-4), 2) := by decide +kernel
theorem dX11_incidentOf_89 : decode cX11_incidentOf 89 = .ok (.goto 13, 3) := by decide +kernel
theorem dX11_incidentOf_92 : decode cX11_incidentOf 92 = .ok (.aload_n 0, 1) := by decide +kernel
theorem dX11_incidentOf_93 : decode cX11_incidentOf 93 = .ok (.getfield 7, 3) := by decide +kernel
theorem dX11_incidentOf_96 : decode cX11_incidentOf 96 = .ok (.iload_n 3, 1) := by decide +kernel
theorem dX11_incidentOf_97 : decode cX11_incidentOf 97 = .ok (.iconst 4, 1) := by decide +kernel
theorem dX11_incidentOf_98 : decode cX11_incidentOf 98 = .ok (.iadd, 1) := by decide +kernel
theorem dX11_incidentOf_99 : decode cX11_incidentOf 99 = .ok (.iaload, 1) := by decide +kernel
theorem dX11_incidentOf_100 : decode cX11_incidentOf 100 = .ok (.iconst 1, 1) := by decide +kernel
theorem dX11_incidentOf_101 : decode cX11_incidentOf 101 = .ok (.isub, 1) := by decide +kernel
theorem dX11_incidentOf_102 : decode cX11_incidentOf 102 = .ok (.ireturn, 1) := by decide +kernel
theorem dX11_incidentOf_103 : decode cX11_incidentOf 103 = .ok (.aload_n 0, 1) := by decide +kernel
theorem dX11_incidentOf_104 : decode cX11_incidentOf 104 = .ok (.getfield 7, 3) := by decide +kernel
theorem dX11_incidentOf_107 : decode cX11_incidentOf 107 = .ok (.iload_n 3, 1) := by decide +kernel
theorem dX11_incidentOf_108 : decode cX11_incidentOf 108 = .ok (.bipush 14, 2) := by decide +kernel
theorem dX11_incidentOf_110 : decode cX11_incidentOf 110 = .ok (.iadd, 1) := by decide +kernel
theorem dX11_incidentOf_111 : decode cX11_incidentOf 111 = .ok (.iaload, 1) := by decide +kernel
theorem dX11_incidentOf_112 : decode cX11_incidentOf 112 = .ok (.ifCond .ne 8, 3) := by decide +kernel
theorem dX11_incidentOf_115 : decode cX11_incidentOf 115 = .ok (.bipush (-4), 2) := by decide +kernel
theorem dX11_incidentOf_117 : decode cX11_incidentOf 117 = .ok (.goto 12, 3) := by decide +kernel
theorem dX11_incidentOf_120 : decode cX11_incidentOf 120 = .ok (.aload_n 0, 1) := by decide +kernel
theorem dX11_incidentOf_121 : decode cX11_incidentOf 121 = .ok (.getfield 7, 3) := by decide +kernel
theorem dX11_incidentOf_124 : decode cX11_incidentOf 124 = .ok (.iload_n 3, 1) := by decide +kernel
theorem dX11_incidentOf_125 : decode cX11_incidentOf 125 = .ok (.bipush 10, 2) := by decide +kernel
theorem dX11_incidentOf_127 : decode cX11_incidentOf 127 = .ok (.iadd, 1) := by decide +kernel
theorem dX11_incidentOf_128 : decode cX11_incidentOf 128 = .ok (.iaload, 1) := by decide +kernel
theorem dX11_incidentOf_129 : decode cX11_incidentOf 129 = .ok (.ireturn, 1) := by decide +kernel
theorem dX11_incidentOf_130 : decode cX11_incidentOf 130 = .ok (.aload_n 0, 1) := by decide +kernel
theorem dX11_incidentOf_131 : decode cX11_incidentOf 131 = .ok (.getfield 7, 3) := by decide +kernel
theorem dX11_incidentOf_134 : decode cX11_incidentOf 134 = .ok (.iload_n 3, 1) := by decide +kernel
theorem dX11_incidentOf_135 : decode cX11_incidentOf 135 = .ok (.bipush 12, 2) := by decide +kernel
theorem dX11_incidentOf_137 : decode cX11_incidentOf 137 = .ok (.iadd, 1) := by decide +kernel
theorem dX11_incidentOf_138 : decode cX11_incidentOf 138 = .ok (.iaload, 1) := by decide +kernel
theorem dX11_incidentOf_139 : decode cX11_incidentOf 139 = .ok (.ireturn, 1) := by decide +kernel
theorem dX11_incidentOf_140 : decode cX11_incidentOf 140 = .ok (.aload_n 0, 1) := by decide +kernel
theorem dX11_incidentOf_141 : decode cX11_incidentOf 141 = .ok (.getfield 7, 3) := by decide +kernel
theorem dX11_incidentOf_144 : decode cX11_incidentOf 144 = .ok (.iload_n 3, 1) := by decide +kernel
theorem dX11_incidentOf_145 : decode cX11_incidentOf 145 = .ok (.bipush 13, 2) := by decide +kernel
theorem dX11_incidentOf_147 : decode cX11_incidentOf 147 = .ok (.iadd, 1) := by decide +kernel
theorem dX11_incidentOf_148 : decode cX11_incidentOf 148 = .ok (.iaload, 1) := by decide +kernel
theorem dX11_incidentOf_149 : decode cX11_incidentOf 149 = .ok (.ireturn, 1) := by decide +kernel
theorem dX11_incidentOf_150 : decode cX11_incidentOf 150 = .ok (.aload_n 0, 1) := by decide +kernel
theorem dX11_incidentOf_151 : decode cX11_incidentOf 151 = .ok (.getfield 7, 3) := by decide +kernel
theorem dX11_incidentOf_154 : decode cX11_incidentOf 154 = .ok (.iload_n 3, 1) := by decide +kernel
theorem dX11_incidentOf_155 : decode cX11_incidentOf 155 = .ok (.iconst 1, 1) := by decide +kernel
theorem dX11_incidentOf_156 : decode cX11_incidentOf 156 = .ok (.iadd, 1) := by decide +kernel
theorem dX11_incidentOf_157 : decode cX11_incidentOf 157 = .ok (.iload_n 2, 1) := by decide +kernel
theorem dX11_incidentOf_158 : decode cX11_incidentOf 158 = .ok (.iadd, 1) := by decide +kernel
theorem dX11_incidentOf_159 : decode cX11_incidentOf 159 = .ok (.iaload, 1) := by decide +kernel
theorem dX11_incidentOf_160 : decode cX11_incidentOf 160 = .ok (.ireturn, 1) := by decide +kernel
theorem dX11_openOnes_0 : decode cX11_openOnes 0 = .ok (.iconst 0, 1) := by decide +kernel
theorem dX11_openOnes_1 : decode cX11_openOnes 1 = .ok (.istore_n 2, 1) := by decide +kernel
theorem dX11_openOnes_2 : decode cX11_openOnes 2 = .ok (.iconst 0, 1) := by decide +kernel
theorem dX11_openOnes_3 : decode cX11_openOnes 3 = .ok (.istore_n 3, 1) := by decide +kernel
theorem dX11_openOnes_4 : decode cX11_openOnes 4 = .ok (.iload_n 3, 1) := by decide +kernel
theorem dX11_openOnes_5 : decode cX11_openOnes 5 = .ok (.bipush 8, 2) := by decide +kernel
theorem dX11_openOnes_7 : decode cX11_openOnes 7 = .ok (.if_icmp .ge 71, 3) := by decide +kernel
theorem dX11_openOnes_10 : decode cX11_openOnes 10 = .ok (.iload_n 3, 1) := by decide +kernel
theorem dX11_openOnes_11 : decode cX11_openOnes 11 = .ok (.invokestatic 36, 3) := by decide +kernel
theorem dX11_openOnes_14 : decode cX11_openOnes 14 = .ok (.istore 4, 2) := by decide +kernel
theorem dX11_openOnes_16 : decode cX11_openOnes 16 = .ok (.iload_n 2, 1) := by decide +kernel
theorem dX11_openOnes_17 : decode cX11_openOnes 17 = .ok (.aload_n 0, 1) := by decide +kernel
theorem dX11_openOnes_18 : decode cX11_openOnes 18 = .ok (.iload_n 3, 1) := by decide +kernel
theorem dX11_openOnes_19 : decode cX11_openOnes 19 = .ok (.invokevirtual 70, 3) := by decide +kernel
theorem dX11_openOnes_22 : decode cX11_openOnes 22 = .ok (.ifCond .eq 47, 3) := by decide +kernel
theorem dX11_openOnes_25 : decode cX11_openOnes 25 = .ok (.iload_n 1, 1) := by decide +kernel
theorem dX11_openOnes_26 : decode cX11_openOnes 26 = .ok (.iconst 3, 1) := by decide +kernel
theorem dX11_openOnes_27 : decode cX11_openOnes 27 = .ok (.if_icmp .eq 38, 3) := by decide +kernel
theorem dX11_openOnes_30 : decode cX11_openOnes 30 = .ok (.iload_n 1, 1) := by decide +kernel
theorem dX11_openOnes_31 : decode cX11_openOnes 31 = .ok (.iconst 4, 1) := by decide +kernel
theorem dX11_openOnes_32 : decode cX11_openOnes 32 = .ok (.if_icmp .ne 15, 3) := by decide +kernel
theorem dX11_openOnes_35 : decode cX11_openOnes 35 = .ok (.aload_n 0, 1) := by decide +kernel
theorem dX11_openOnes_36 : decode cX11_openOnes 36 = .ok (.getfield 7, 3) := by decide +kernel
theorem dX11_openOnes_39 : decode cX11_openOnes 39 = .ok (.iload 4, 2) := by decide +kernel
theorem dX11_openOnes_41 : decode cX11_openOnes 41 = .ok (.iconst 4, 1) := by decide +kernel
theorem dX11_openOnes_42 : decode cX11_openOnes 42 = .ok (.iadd, 1) := by decide +kernel
theorem dX11_openOnes_43 : decode cX11_openOnes 43 = .ok (.iaload, 1) := by decide +kernel
theorem dX11_openOnes_44 : decode cX11_openOnes 44 = .ok (.ifCond .eq 21, 3) := by decide +kernel
theorem dX11_openOnes_47 : decode cX11_openOnes 47 = .ok (.iload_n 1, 1) := by decide +kernel
theorem dX11_openOnes_48 : decode cX11_openOnes 48 = .ok (.iconst 5, 1) := by decide +kernel
theorem dX11_openOnes_49 : decode cX11_openOnes 49 = .ok (.if_icmp .ne 20, 3) := by decide +kernel
theorem dX11_openOnes_52 : decode cX11_openOnes 52 = .ok (.aload_n 0, 1) := by decide +kernel
theorem dX11_openOnes_53 : decode cX11_openOnes 53 = .ok (.getfield 7, 3) := by decide +kernel
theorem dX11_openOnes_56 : decode cX11_openOnes 56 = .ok (.iload 4, 2) := by decide +kernel
theorem dX11_openOnes_58 : decode cX11_openOnes 58 = .ok (.iconst 5, 1) := by decide +kernel
theorem dX11_openOnes_59 : decode cX11_openOnes 59 = .ok (.iadd, 1) := by decide +kernel
theorem dX11_openOnes_60 : decode cX11_openOnes 60 = .ok (.iaload, 1) := by decide +kernel
theorem dX11_openOnes_61 : decode cX11_openOnes 61 = .ok (.iconst 1, 1) := by decide +kernel
theorem dX11_openOnes_62 : decode cX11_openOnes 62 = .ok (.if_icmp .ne 7, 3) := by decide +kernel
theorem dX11_openOnes_65 : decode cX11_openOnes 65 = .ok (.iconst 1, 1) := by decide +kernel
theorem dX11_openOnes_66 : decode cX11_openOnes 66 = .ok (.goto 4, 3) := by decide +kernel
theorem dX11_openOnes_69 : decode cX11_openOnes 69 = .ok (.iconst 0, 1) := by decide +kernel
theorem dX11_openOnes_70 : decode cX11_openOnes 70 = .ok (.iadd, 1) := by decide +kernel
theorem dX11_openOnes_71 : decode cX11_openOnes 71 = .ok (.istore_n 2, 1) := by decide +kernel
theorem dX11_openOnes_72 : decode cX11_openOnes 72 = .ok (.iinc 3 1, 3) := by decide +kernel
theorem dX11_openOnes_75 : decode cX11_openOnes 75 = .ok (.goto (-71), 3) := by decide +kernel
theorem dX11_openOnes_78 : decode cX11_openOnes 78 = .ok (.iload_n 2, 1) := by decide +kernel
theorem dX11_openOnes_79 : decode cX11_openOnes 79 = .ok (.ireturn, 1) := by decide +kernel
theorem dX11_count_0 : decode cX11_count 0 = .ok (.iload_n 1, 1) := by decide +kernel
theorem dX11_count_1 : decode cX11_count 1 = .ok (.tableswitch 156 0 21 #[103, 103, 103, 110, 110, 110, 116, 116, 116, 116, 116, 116, 116, 128, 133, 138, 156, 156, 156, 156, 143, 143], 103) := by decide +kernel
theorem dX11_count_104 : decode cX11_count 104 = .ok (.aload_n 0, 1) := by decide +kernel
theorem dX11_count_105 : decode cX11_count 105 = .ok (.getfield 7, 3) := by decide +kernel
theorem dX11_count_108 : decode cX11_count 108 = .ok (.iload_n 1, 1) := by decide +kernel
theorem dX11_count_109 : decode cX11_count 109 = .ok (.iaload, 1) := by decide +kernel
theorem dX11_count_110 : decode cX11_count 110 = .ok (.ireturn, 1) := by decide +kernel
theorem dX11_count_111 : decode cX11_count 111 = .ok (.aload_n 0, 1) := by decide +kernel
theorem dX11_count_112 : decode cX11_count 112 = .ok (.iload_n 1, 1) := by decide +kernel
theorem dX11_count_113 : decode cX11_count 113 = .ok (.invokevirtual 158, 3) := by decide +kernel
theorem dX11_count_116 : decode cX11_count 116 = .ok (.ireturn, 1) := by decide +kernel
theorem dX11_count_117 : decode cX11_count 117 = .ok (.aload_n 0, 1) := by decide +kernel
theorem dX11_count_118 : decode cX11_count 118 = .ok (.getfield 7, 3) := by decide +kernel
theorem dX11_count_121 : decode cX11_count 121 = .ok (.iconst 3, 1) := by decide +kernel
theorem dX11_count_122 : decode cX11_count 122 = .ok (.iload_n 1, 1) := by decide +kernel
theorem dX11_count_123 : decode cX11_count 123 = .ok (.iadd, 1) := by decide +kernel
theorem dX11_count_124 : decode cX11_count 124 = .ok (.bipush 6, 2) := by decide +kernel
theorem dX11_count_126 : decode cX11_count 126 = .ok (.isub, 1) := by decide +kernel
theorem dX11_count_127 : decode cX11_count 127 = .ok (.iaload, 1) := by decide +kernel
theorem dX11_count_128 : decode cX11_count 128 = .ok (.ireturn, 1) := by decide +kernel
theorem dX11_count_129 : decode cX11_count 129 = .ok (.aload_n 0, 1) := by decide +kernel
theorem dX11_count_130 : decode cX11_count 130 = .ok (.invokevirtual 89, 3) := by decide +kernel
theorem dX11_count_133 : decode cX11_count 133 = .ok (.ireturn, 1) := by decide +kernel
theorem dX11_count_134 : decode cX11_count 134 = .ok (.aload_n 0, 1) := by decide +kernel
theorem dX11_count_135 : decode cX11_count 135 = .ok (.getfield 28, 3) := by decide +kernel
theorem dX11_count_138 : decode cX11_count 138 = .ok (.ireturn, 1) := by decide +kernel
theorem dX11_count_139 : decode cX11_count 139 = .ok (.aload_n 0, 1) := by decide +kernel
theorem dX11_count_140 : decode cX11_count 140 = .ok (.getfield 161, 3) := by decide +kernel
theorem dX11_count_143 : decode cX11_count 143 = .ok (.ireturn, 1) := by decide +kernel
theorem dX11_count_144 : decode cX11_count 144 = .ok (.aload_n 0, 1) := by decide +kernel
theorem dX11_count_145 : decode cX11_count 145 = .ok (.getfield 7, 3) := by decide +kernel
theorem dX11_count_148 : decode cX11_count 148 = .ok (.bipush 13, 2) := by decide +kernel
theorem dX11_count_150 : decode cX11_count 150 = .ok (.iload_n 1, 1) := by decide +kernel
theorem dX11_count_151 : decode cX11_count 151 = .ok (.iadd, 1) := by decide +kernel
theorem dX11_count_152 : decode cX11_count 152 = .ok (.bipush 20, 2) := by decide +kernel
theorem dX11_count_154 : decode cX11_count 154 = .ok (.isub, 1) := by decide +kernel
theorem dX11_count_155 : decode cX11_count 155 = .ok (.iaload, 1) := by decide +kernel
theorem dX11_count_156 : decode cX11_count 156 = .ok (.ireturn, 1) := by decide +kernel
theorem dX11_count_157 : decode cX11_count 157 = .ok (.iconst (-1), 1) := by decide +kernel
theorem dX11_count_158 : decode cX11_count 158 = .ok (.ireturn, 1) := by decide +kernel
theorem dX11_onCall_0 : decode cX11_onCall 0 = .ok (.iload_n 1, 1) := by decide +kernel
theorem dX11_onCall_1 : decode cX11_onCall 1 = .ok (.iconst 0, 1) := by decide +kernel
theorem dX11_onCall_2 : decode cX11_onCall 2 = .ok (.sipush 30000, 3) := by decide +kernel
theorem dX11_onCall_5 : decode cX11_onCall 5 = .ok (.invokestatic 32, 3) := by decide +kernel
theorem dX11_onCall_8 : decode cX11_onCall 8 = .ok (.ifCond .eq 13, 3) := by decide +kernel
theorem dX11_onCall_11 : decode cX11_onCall 11 = .ok (.iload_n 2, 1) := by decide +kernel
theorem dX11_onCall_12 : decode cX11_onCall 12 = .ok (.iconst (-1), 1) := by decide +kernel
theorem dX11_onCall_13 : decode cX11_onCall 13 = .ok (.bipush 9, 2) := by decide +kernel
theorem dX11_onCall_15 : decode cX11_onCall 15 = .ok (.invokestatic 32, 3) := by decide +kernel
theorem dX11_onCall_18 : decode cX11_onCall 18 = .ok (.ifCond .ne 5, 3) := by decide +kernel
theorem dX11_onCall_21 : decode cX11_onCall 21 = .ok (.iconst (-1), 1) := by decide +kernel
theorem dX11_onCall_22 : decode cX11_onCall 22 = .ok (.ireturn, 1) := by decide +kernel
theorem dX11_onCall_23 : decode cX11_onCall 23 = .ok (.aload_n 0, 1) := by decide +kernel
theorem dX11_onCall_24 : decode cX11_onCall 24 = .ok (.getfield 7, 3) := by decide +kernel
theorem dX11_onCall_27 : decode cX11_onCall 27 = .ok (.iconst 2, 1) := by decide +kernel
theorem dX11_onCall_28 : decode cX11_onCall 28 = .ok (.iaload, 1) := by decide +kernel
theorem dX11_onCall_29 : decode cX11_onCall 29 = .ok (.iload_n 1, 1) := by decide +kernel
theorem dX11_onCall_30 : decode cX11_onCall 30 = .ok (.iadd, 1) := by decide +kernel
theorem dX11_onCall_31 : decode cX11_onCall 31 = .ok (.istore_n 3, 1) := by decide +kernel
theorem dX11_onCall_32 : decode cX11_onCall 32 = .ok (.iload_n 2, 1) := by decide +kernel
theorem dX11_onCall_33 : decode cX11_onCall 33 = .ok (.ifCond .ge 11, 3) := by decide +kernel
theorem dX11_onCall_36 : decode cX11_onCall 36 = .ok (.aload_n 0, 1) := by decide +kernel
theorem dX11_onCall_37 : decode cX11_onCall 37 = .ok (.iload_n 3, 1) := by decide +kernel
theorem dX11_onCall_38 : decode cX11_onCall 38 = .ok (.invokevirtual 51, 3) := by decide +kernel
theorem dX11_onCall_41 : decode cX11_onCall 41 = .ok (.goto 9, 3) := by decide +kernel
theorem dX11_onCall_44 : decode cX11_onCall 44 = .ok (.aload_n 0, 1) := by decide +kernel
theorem dX11_onCall_45 : decode cX11_onCall 45 = .ok (.iload_n 3, 1) := by decide +kernel
theorem dX11_onCall_46 : decode cX11_onCall 46 = .ok (.iload_n 2, 1) := by decide +kernel
theorem dX11_onCall_47 : decode cX11_onCall 47 = .ok (.invokevirtual 57, 3) := by decide +kernel
theorem dX11_onCall_50 : decode cX11_onCall 50 = .ok (.istore 4, 2) := by decide +kernel
theorem dX11_onCall_52 : decode cX11_onCall 52 = .ok (.iload 4, 2) := by decide +kernel
theorem dX11_onCall_54 : decode cX11_onCall 54 = .ok (.ifCond .ge 8, 3) := by decide +kernel
theorem dX11_onCall_57 : decode cX11_onCall 57 = .ok (.bipush (-4), 2) := by decide +kernel
theorem dX11_onCall_59 : decode cX11_onCall 59 = .ok (.goto 5, 3) := by decide +kernel
theorem dX11_onCall_62 : decode cX11_onCall 62 = .ok (.iload 4, 2) := by decide +kernel
theorem dX11_onCall_64 : decode cX11_onCall 64 = .ok (.ireturn, 1) := by decide +kernel
theorem dX11_uncovered_0 : decode cX11_uncovered 0 = .ok (.iconst 0, 1) := by decide +kernel
theorem dX11_uncovered_1 : decode cX11_uncovered 1 = .ok (.istore_n 1, 1) := by decide +kernel
theorem dX11_uncovered_2 : decode cX11_uncovered 2 = .ok (.iconst 0, 1) := by decide +kernel
theorem dX11_uncovered_3 : decode cX11_uncovered 3 = .ok (.istore_n 2, 1) := by decide +kernel
theorem dX11_uncovered_4 : decode cX11_uncovered 4 = .ok (.iload_n 2, 1) := by decide +kernel
theorem dX11_uncovered_5 : decode cX11_uncovered 5 = .ok (.bipush 24, 2) := by decide +kernel
theorem dX11_uncovered_7 : decode cX11_uncovered 7 = .ok (.if_icmp .ge 28, 3) := by decide +kernel
theorem dX11_uncovered_10 : decode cX11_uncovered 10 = .ok (.iload_n 1, 1) := by decide +kernel
theorem dX11_uncovered_11 : decode cX11_uncovered 11 = .ok (.aload_n 0, 1) := by decide +kernel
theorem dX11_uncovered_12 : decode cX11_uncovered 12 = .ok (.bipush 60, 2) := by decide +kernel
theorem dX11_uncovered_14 : decode cX11_uncovered 14 = .ok (.iload_n 2, 1) := by decide +kernel
theorem dX11_uncovered_15 : decode cX11_uncovered 15 = .ok (.imul, 1) := by decide +kernel
theorem dX11_uncovered_16 : decode cX11_uncovered 16 = .ok (.invokevirtual 51, 3) := by decide +kernel
theorem dX11_uncovered_19 : decode cX11_uncovered 19 = .ok (.ifCond .ge 7, 3) := by decide +kernel
theorem dX11_uncovered_22 : decode cX11_uncovered 22 = .ok (.iconst 1, 1) := by decide +kernel
theorem dX11_uncovered_23 : decode cX11_uncovered 23 = .ok (.goto 4, 3) := by decide +kernel
theorem dX11_uncovered_26 : decode cX11_uncovered 26 = .ok (.iconst 0, 1) := by decide +kernel
theorem dX11_uncovered_27 : decode cX11_uncovered 27 = .ok (.iadd, 1) := by decide +kernel
theorem dX11_uncovered_28 : decode cX11_uncovered 28 = .ok (.istore_n 1, 1) := by decide +kernel
theorem dX11_uncovered_29 : decode cX11_uncovered 29 = .ok (.iinc 2 1, 3) := by decide +kernel
theorem dX11_uncovered_32 : decode cX11_uncovered 32 = .ok (.goto (-28), 3) := by decide +kernel
theorem dX11_uncovered_35 : decode cX11_uncovered 35 = .ok (.iload_n 1, 1) := by decide +kernel
theorem dX11_uncovered_36 : decode cX11_uncovered 36 = .ok (.ireturn, 1) := by decide +kernel
theorem dX11_later_0 : decode cX11_later 0 = .ok (.aload_n 0, 1) := by decide +kernel
theorem dX11_later_1 : decode cX11_later 1 = .ok (.iload_n 1, 1) := by decide +kernel
theorem dX11_later_2 : decode cX11_later 2 = .ok (.invokevirtual 70, 3) := by decide +kernel
theorem dX11_later_5 : decode cX11_later 5 = .ok (.ifCond .eq 23, 3) := by decide +kernel
theorem dX11_later_8 : decode cX11_later 8 = .ok (.iload_n 2, 1) := by decide +kernel
theorem dX11_later_9 : decode cX11_later 9 = .ok (.iconst 1, 1) := by decide +kernel
theorem dX11_later_10 : decode cX11_later 10 = .ok (.sipush 600, 3) := by decide +kernel
theorem dX11_later_13 : decode cX11_later 13 = .ok (.invokestatic 32, 3) := by decide +kernel
theorem dX11_later_16 : decode cX11_later 16 = .ok (.ifCond .eq 12, 3) := by decide +kernel
theorem dX11_later_19 : decode cX11_later 19 = .ok (.iload_n 3, 1) := by decide +kernel
theorem dX11_later_20 : decode cX11_later 20 = .ok (.iconst 0, 1) := by decide +kernel
theorem dX11_later_21 : decode cX11_later 21 = .ok (.iconst 2, 1) := by decide +kernel
theorem dX11_later_22 : decode cX11_later 22 = .ok (.invokestatic 32, 3) := by decide +kernel
theorem dX11_later_25 : decode cX11_later 25 = .ok (.ifCond .ne 5, 3) := by decide +kernel
theorem dX11_later_28 : decode cX11_later 28 = .ok (.iconst (-1), 1) := by decide +kernel
theorem dX11_later_29 : decode cX11_later 29 = .ok (.ireturn, 1) := by decide +kernel
theorem dX11_later_30 : decode cX11_later 30 = .ok (.iconst 0, 1) := by decide +kernel
theorem dX11_later_31 : decode cX11_later 31 = .ok (.istore 4, 2) := by decide +kernel
theorem dX11_later_33 : decode cX11_later 33 = .ok (.iload 4, 2) := by decide +kernel
theorem dX11_later_35 : decode cX11_later 35 = .ok (.sipush 229, 3) := by decide +kernel
theorem dX11_later_38 : decode cX11_later 38 = .ok (.if_icmp .ge 23, 3) := by decide +kernel
theorem dX11_later_41 : decode cX11_later 41 = .ok (.aload_n 0, 1) := by decide +kernel
theorem dX11_later_42 : decode cX11_later 42 = .ok (.getfield 16, 3) := by decide +kernel
theorem dX11_later_45 : decode cX11_later 45 = .ok (.iload 4, 2) := by decide +kernel
theorem dX11_later_47 : decode cX11_later 47 = .ok (.aload_n 0, 1) := by decide +kernel
theorem dX11_later_48 : decode cX11_later 48 = .ok (.getfield 7, 3) := by decide +kernel
theorem dX11_later_51 : decode cX11_later 51 = .ok (.iload 4, 2) := by decide +kernel
theorem dX11_later_53 : decode cX11_later 53 = .ok (.iaload, 1) := by decide +kernel
theorem dX11_later_54 : decode cX11_later 54 = .ok (.iastore, 1) := by decide +kernel
theorem dX11_later_55 : decode cX11_later 55 = .ok (.iinc 4 1, 3) := by decide +kernel
theorem dX11_later_58 : decode cX11_later 58 = .ok (.goto (-25), 3) := by decide +kernel
theorem dX11_later_61 : decode cX11_later 61 = .ok (.iconst 0, 1) := by decide +kernel
theorem dX11_later_62 : decode cX11_later 62 = .ok (.istore 4, 2) := by decide +kernel
theorem dX11_later_64 : decode cX11_later 64 = .ok (.iload 4, 2) := by decide +kernel
theorem dX11_later_66 : decode cX11_later 66 = .ok (.iload_n 2, 1) := by decide +kernel
theorem dX11_later_67 : decode cX11_later 67 = .ok (.if_icmp .ge 24, 3) := by decide +kernel
theorem dX11_later_70 : decode cX11_later 70 = .ok (.aload_n 0, 1) := by decide +kernel
theorem dX11_later_71 : decode cX11_later 71 = .ok (.getfield 7, 3) := by decide +kernel
theorem dX11_later_74 : decode cX11_later 74 = .ok (.iconst 2, 1) := by decide +kernel
theorem dX11_later_75 : decode cX11_later 75 = .ok (.dup2, 1) := by decide +kernel
theorem dX11_later_76 : decode cX11_later 76 = .ok (.iaload, 1) := by decide +kernel
theorem dX11_later_77 : decode cX11_later 77 = .ok (.iconst 1, 1) := by decide +kernel
theorem dX11_later_78 : decode cX11_later 78 = .ok (.iadd, 1) := by decide +kernel
theorem dX11_later_79 : decode cX11_later 79 = .ok (.iastore, 1) := by decide +kernel
theorem dX11_later_80 : decode cX11_later 80 = .ok (.aload_n 0, 1) := by decide +kernel
theorem dX11_later_81 : decode cX11_later 81 = .ok (.iload_n 1, 1) := by decide +kernel
theorem dX11_later_82 : decode cX11_later 82 = .ok (.invokevirtual 74, 3) := by decide +kernel
theorem dX11_later_85 : decode cX11_later 85 = .ok (.iinc 4 1, 3) := by decide +kernel
theorem dX11_later_88 : decode cX11_later 88 = .ok (.goto (-24), 3) := by decide +kernel
theorem dX11_later_91 : decode cX11_later 91 = .ok (.iload_n 1, 1) := by decide +kernel
theorem dX11_later_92 : decode cX11_later 92 = .ok (.invokestatic 36, 3) := by decide +kernel
theorem dX11_later_95 : decode cX11_later 95 = .ok (.istore 4, 2) := by decide +kernel
theorem dX11_later_97 : decode cX11_later 97 = .ok (.iload_n 3, 1) := by decide +kernel
theorem dX11_later_98 : decode cX11_later 98 = .ok (.ifCond .ne 34, 3) := by decide +kernel
theorem dX11_later_101 : decode cX11_later 101 = .ok (.aload_n 0, 1) := by decide +kernel
theorem dX11_later_102 : decode cX11_later 102 = .ok (.getfield 7, 3) := by decide +kernel
theorem dX11_later_105 : decode cX11_later 105 = .ok (.iload 4, 2) := by decide +kernel
theorem dX11_later_107 : decode cX11_later 107 = .ok (.iconst 4, 1) := by decide +kernel
theorem dX11_later_108 : decode cX11_later 108 = .ok (.iadd, 1) := by decide +kernel
theorem dX11_later_109 : decode cX11_later 109 = .ok (.iaload, 1) := by decide +kernel
theorem dX11_later_110 : decode cX11_later 110 = .ok (.ifCond .ne 8, 3) := by decide +kernel
theorem dX11_later_113 : decode cX11_later 113 = .ok (.bipush (-4), 2) := by decide +kernel
theorem dX11_later_115 : decode cX11_later 115 = .ok (.goto 44, 3) := by decide +kernel
theorem dX11_later_118 : decode cX11_later 118 = .ok (.aload_n 0, 1) := by decide +kernel
theorem dX11_later_119 : decode cX11_later 119 = .ok (.getfield 7, 3) := by decide +kernel
theorem dX11_later_122 : decode cX11_later 122 = .ok (.iload 4, 2) := by decide +kernel
theorem dX11_later_124 : decode cX11_later 124 = .ok (.iconst 4, 1) := by decide +kernel
theorem dX11_later_125 : decode cX11_later 125 = .ok (.iadd, 1) := by decide +kernel
theorem dX11_later_126 : decode cX11_later 126 = .ok (.iaload, 1) := by decide +kernel
theorem dX11_later_127 : decode cX11_later 127 = .ok (.iconst 1, 1) := by decide +kernel
theorem dX11_later_128 : decode cX11_later 128 = .ok (.isub, 1) := by decide +kernel
theorem dX11_later_129 : decode cX11_later 129 = .ok (.goto 30, 3) := by decide +kernel
theorem dX11_later_132 : decode cX11_later 132 = .ok (.iload_n 3, 1) := by decide +kernel
theorem dX11_later_133 : decode cX11_later 133 = .ok (.iconst 1, 1) := by decide +kernel
theorem dX11_later_134 : decode cX11_later 134 = .ok (.if_icmp .ne 15, 3) := by decide +kernel
theorem dX11_later_137 : decode cX11_later 137 = .ok (.aload_n 0, 1) := by decide +kernel
theorem dX11_later_138 : decode cX11_later 138 = .ok (.getfield 7, 3) := by decide +kernel
theorem dX11_later_141 : decode cX11_later 141 = .ok (.iload 4, 2) := by decide +kernel
theorem dX11_later_143 : decode cX11_later 143 = .ok (.iconst 3, 1) := by decide +kernel
theorem dX11_later_144 : decode cX11_later 144 = .ok (.iadd, 1) := by decide +kernel
theorem dX11_later_145 : decode cX11_later 145 = .ok (.iaload, 1) := by decide +kernel
theorem dX11_later_146 : decode cX11_later 146 = .ok (.goto 13, 3) := by decide +kernel
theorem dX11_later_149 : decode cX11_later 149 = .ok (.aload_n 0, 1) := by decide +kernel
theorem dX11_later_150 : decode cX11_later 150 = .ok (.getfield 7, 3) := by decide +kernel
theorem dX11_later_153 : decode cX11_later 153 = .ok (.iload 4, 2) := by decide +kernel
theorem dX11_later_155 : decode cX11_later 155 = .ok (.bipush 9, 2) := by decide +kernel
theorem dX11_later_157 : decode cX11_later 157 = .ok (.iadd, 1) := by decide +kernel
theorem dX11_later_158 : decode cX11_later 158 = .ok (.iaload, 1) := by decide +kernel
theorem dX11_later_159 : decode cX11_later 159 = .ok (.istore 5, 2) := by decide +kernel
theorem dX11_later_161 : decode cX11_later 161 = .ok (.iconst 0, 1) := by decide +kernel
theorem dX11_later_162 : decode cX11_later 162 = .ok (.istore 6, 2) := by decide +kernel
theorem dX11_later_164 : decode cX11_later 164 = .ok (.iload 6, 2) := by decide +kernel
theorem dX11_later_166 : decode cX11_later 166 = .ok (.sipush 229, 3) := by decide +kernel
theorem dX11_later_169 : decode cX11_later 169 = .ok (.if_icmp .ge 23, 3) := by decide +kernel
theorem dX11_later_172 : decode cX11_later 172 = .ok (.aload_n 0, 1) := by decide +kernel
theorem dX11_later_173 : decode cX11_later 173 = .ok (.getfield 7, 3) := by decide +kernel
theorem dX11_later_176 : decode cX11_later 176 = .ok (.iload 6, 2) := by decide +kernel
theorem dX11_later_178 : decode cX11_later 178 = .ok (.aload_n 0, 1) := by decide +kernel
theorem dX11_later_179 : decode cX11_later 179 = .ok (.getfield 16, 3) := by decide +kernel
theorem dX11_later_182 : decode cX11_later 182 = .ok (.iload 6, 2) := by decide +kernel
theorem dX11_later_184 : decode cX11_later 184 = .ok (.iaload, 1) := by decide +kernel
theorem dX11_later_185 : decode cX11_later 185 = .ok (.iastore, 1) := by decide +kernel
theorem dX11_later_186 : decode cX11_later 186 = .ok (.iinc 6 1, 3) := by decide +kernel
theorem dX11_later_189 : decode cX11_later 189 = .ok (.goto (-25), 3) := by decide +kernel
theorem dX11_later_192 : decode cX11_later 192 = .ok (.iload 5, 2) := by decide +kernel
theorem dX11_later_194 : decode cX11_later 194 = .ok (.ireturn, 1) := by decide +kernel
theorem dX11_acknowledgeBits_0 : decode cX11_acknowledgeBits 0 = .ok (.aload_n 0, 1) := by decide +kernel
theorem dX11_acknowledgeBits_1 : decode cX11_acknowledgeBits 1 = .ok (.getfield 7, 3) := by decide +kernel
theorem dX11_acknowledgeBits_4 : decode cX11_acknowledgeBits 4 = .ok (.bipush 12, 2) := by decide +kernel
theorem dX11_acknowledgeBits_6 : decode cX11_acknowledgeBits 6 = .ok (.iaload, 1) := by decide +kernel
theorem dX11_acknowledgeBits_7 : decode cX11_acknowledgeBits 7 = .ok (.ifCond .ne 6, 3) := by decide +kernel
theorem dX11_acknowledgeBits_10 : decode cX11_acknowledgeBits 10 = .ok (.bipush (-4), 2) := by decide +kernel
theorem dX11_acknowledgeBits_12 : decode cX11_acknowledgeBits 12 = .ok (.ireturn, 1) := by decide +kernel
theorem dX11_acknowledgeBits_13 : decode cX11_acknowledgeBits 13 = .ok (.aload_n 0, 1) := by decide +kernel
theorem dX11_acknowledgeBits_14 : decode cX11_acknowledgeBits 14 = .ok (.getfield 7, 3) := by decide +kernel
theorem dX11_acknowledgeBits_17 : decode cX11_acknowledgeBits 17 = .ok (.bipush 11, 2) := by decide +kernel
theorem dX11_acknowledgeBits_19 : decode cX11_acknowledgeBits 19 = .ok (.iaload, 1) := by decide +kernel
theorem dX11_acknowledgeBits_20 : decode cX11_acknowledgeBits 20 = .ok (.i2f, 1) := by decide +kernel
theorem dX11_acknowledgeBits_21 : decode cX11_acknowledgeBits 21 = .ok (.fstore_n 1, 1) := by decide +kernel
theorem dX11_acknowledgeBits_22 : decode cX11_acknowledgeBits 22 = .ok (.aload_n 0, 1) := by decide +kernel
theorem dX11_acknowledgeBits_23 : decode cX11_acknowledgeBits 23 = .ok (.getfield 7, 3) := by decide +kernel
theorem dX11_acknowledgeBits_26 : decode cX11_acknowledgeBits 26 = .ok (.bipush 12, 2) := by decide +kernel
theorem dX11_acknowledgeBits_28 : decode cX11_acknowledgeBits 28 = .ok (.iaload, 1) := by decide +kernel
theorem dX11_acknowledgeBits_29 : decode cX11_acknowledgeBits 29 = .ok (.i2f, 1) := by decide +kernel
theorem dX11_acknowledgeBits_30 : decode cX11_acknowledgeBits 30 = .ok (.fstore_n 2, 1) := by decide +kernel
theorem dX11_acknowledgeBits_31 : decode cX11_acknowledgeBits 31 = .ok (.fload_n 1, 1) := by decide +kernel
theorem dX11_acknowledgeBits_32 : decode cX11_acknowledgeBits 32 = .ok (.fload_n 2, 1) := by decide +kernel
theorem dX11_acknowledgeBits_33 : decode cX11_acknowledgeBits 33 = .ok (.fdiv, 1) := by decide +kernel
theorem dX11_acknowledgeBits_34 : decode cX11_acknowledgeBits 34 = .ok (.invokestatic 164, 3) := by decide +kernel
theorem dX11_acknowledgeBits_37 : decode cX11_acknowledgeBits 37 = .ok (.ireturn, 1) := by decide +kernel
theorem dX11_unownedBits_0 : decode cX11_unownedBits 0 = .ok (.aload_n 0, 1) := by decide +kernel
theorem dX11_unownedBits_1 : decode cX11_unownedBits 1 = .ok (.getfield 7, 3) := by decide +kernel
theorem dX11_unownedBits_4 : decode cX11_unownedBits 4 = .ok (.bipush 10, 2) := by decide +kernel
theorem dX11_unownedBits_6 : decode cX11_unownedBits 6 = .ok (.iaload, 1) := by decide +kernel
theorem dX11_unownedBits_7 : decode cX11_unownedBits 7 = .ok (.istore_n 1, 1) := by decide +kernel
theorem dX11_unownedBits_8 : decode cX11_unownedBits 8 = .ok (.iconst 0, 1) := by decide +kernel
theorem dX11_unownedBits_9 : decode cX11_unownedBits 9 = .ok (.istore_n 2, 1) := by decide +kernel
theorem dX11_unownedBits_10 : decode cX11_unownedBits 10 = .ok (.iload_n 2, 1) := by decide +kernel
theorem dX11_unownedBits_11 : decode cX11_unownedBits 11 = .ok (.bipush 8, 2) := by decide +kernel
theorem dX11_unownedBits_13 : decode cX11_unownedBits 13 = .ok (.if_icmp .ge 43, 3) := by decide +kernel
theorem dX11_unownedBits_16 : decode cX11_unownedBits 16 = .ok (.iload_n 1, 1) := by decide +kernel
theorem dX11_unownedBits_17 : decode cX11_unownedBits 17 = .ok (.aload_n 0, 1) := by decide +kernel
theorem dX11_unownedBits_18 : decode cX11_unownedBits 18 = .ok (.iload_n 2, 1) := by decide +kernel
theorem dX11_unownedBits_19 : decode cX11_unownedBits 19 = .ok (.invokevirtual 70, 3) := by decide +kernel
theorem dX11_unownedBits_22 : decode cX11_unownedBits 22 = .ok (.ifCond .eq 25, 3) := by decide +kernel
theorem dX11_unownedBits_25 : decode cX11_unownedBits 25 = .ok (.aload_n 0, 1) := by decide +kernel
theorem dX11_unownedBits_26 : decode cX11_unownedBits 26 = .ok (.getfield 7, 3) := by decide +kernel
theorem dX11_unownedBits_29 : decode cX11_unownedBits 29 = .ok (.iconst 2, 1) := by decide +kernel
theorem dX11_unownedBits_30 : decode cX11_unownedBits 30 = .ok (.iaload, 1) := by decide +kernel
theorem dX11_unownedBits_31 : decode cX11_unownedBits 31 = .ok (.aload_n 0, 1) := by decide +kernel
theorem dX11_unownedBits_32 : decode cX11_unownedBits 32 = .ok (.getfield 7, 3) := by decide +kernel
theorem dX11_unownedBits_35 : decode cX11_unownedBits 35 = .ok (.iload_n 2, 1) := by decide +kernel
theorem dX11_unownedBits_36 : decode cX11_unownedBits 36 = .ok (.invokestatic 36, 3) := by decide +kernel
theorem dX11_unownedBits_39 : decode cX11_unownedBits 39 = .ok (.bipush 7, 2) := by decide +kernel
theorem dX11_unownedBits_41 : decode cX11_unownedBits 41 = .ok (.iadd, 1) := by decide +kernel
theorem dX11_unownedBits_42 : decode cX11_unownedBits 42 = .ok (.iaload, 1) := by decide +kernel
theorem dX11_unownedBits_43 : decode cX11_unownedBits 43 = .ok (.isub, 1) := by decide +kernel
theorem dX11_unownedBits_44 : decode cX11_unownedBits 44 = .ok (.goto 4, 3) := by decide +kernel
theorem dX11_unownedBits_47 : decode cX11_unownedBits 47 = .ok (.iconst 0, 1) := by decide +kernel
theorem dX11_unownedBits_48 : decode cX11_unownedBits 48 = .ok (.iadd, 1) := by decide +kernel
theorem dX11_unownedBits_49 : decode cX11_unownedBits 49 = .ok (.istore_n 1, 1) := by decide +kernel
theorem dX11_unownedBits_50 : decode cX11_unownedBits 50 = .ok (.iinc 2 1, 3) := by decide +kernel
theorem dX11_unownedBits_53 : decode cX11_unownedBits 53 = .ok (.goto (-43), 3) := by decide +kernel
theorem dX11_unownedBits_56 : decode cX11_unownedBits 56 = .ok (.iload_n 1, 1) := by decide +kernel
theorem dX11_unownedBits_57 : decode cX11_unownedBits 57 = .ok (.ifCond .ne 6, 3) := by decide +kernel
theorem dX11_unownedBits_60 : decode cX11_unownedBits 60 = .ok (.bipush (-4), 2) := by decide +kernel
theorem dX11_unownedBits_62 : decode cX11_unownedBits 62 = .ok (.ireturn, 1) := by decide +kernel
theorem dX11_unownedBits_63 : decode cX11_unownedBits 63 = .ok (.aload_n 0, 1) := by decide +kernel
theorem dX11_unownedBits_64 : decode cX11_unownedBits 64 = .ok (.getfield 7, 3) := by decide +kernel
theorem dX11_unownedBits_67 : decode cX11_unownedBits 67 = .ok (.bipush 9, 2) := by decide +kernel
theorem dX11_unownedBits_69 : decode cX11_unownedBits 69 = .ok (.iaload, 1) := by decide +kernel
theorem dX11_unownedBits_70 : decode cX11_unownedBits 70 = .ok (.i2d, 1) := by decide +kernel
theorem dX11_unownedBits_71 : decode cX11_unownedBits 71 = .ok (.dstore_n 2, 1) := by decide +kernel
theorem dX11_unownedBits_72 : decode cX11_unownedBits 72 = .ok (.iload_n 1, 1) := by decide +kernel
theorem dX11_unownedBits_73 : decode cX11_unownedBits 73 = .ok (.i2d, 1) := by decide +kernel
theorem dX11_unownedBits_74 : decode cX11_unownedBits 74 = .ok (.dstore 4, 2) := by decide +kernel
theorem dX11_unownedBits_76 : decode cX11_unownedBits 76 = .ok (.dload_n 2, 1) := by decide +kernel
theorem dX11_unownedBits_77 : decode cX11_unownedBits 77 = .ok (.dload 4, 2) := by decide +kernel
theorem dX11_unownedBits_79 : decode cX11_unownedBits 79 = .ok (.ddiv, 1) := by decide +kernel
theorem dX11_unownedBits_80 : decode cX11_unownedBits 80 = .ok (.d2f, 1) := by decide +kernel
theorem dX11_unownedBits_81 : decode cX11_unownedBits 81 = .ok (.invokestatic 164, 3) := by decide +kernel
theorem dX11_unownedBits_84 : decode cX11_unownedBits 84 = .ok (.ireturn, 1) := by decide +kernel
theorem dX11_undo_0 : decode cX11_undo 0 = .ok (.aload_n 0, 1) := by decide +kernel
theorem dX11_undo_1 : decode cX11_undo 1 = .ok (.getfield 28, 3) := by decide +kernel
theorem dX11_undo_4 : decode cX11_undo 4 = .ok (.ifCond .ne 6, 3) := by decide +kernel
theorem dX11_undo_7 : decode cX11_undo 7 = .ok (.bipush (-2), 2) := by decide +kernel
theorem dX11_undo_9 : decode cX11_undo 9 = .ok (.ireturn, 1) := by decide +kernel
theorem dX11_undo_10 : decode cX11_undo 10 = .ok (.aload_n 0, 1) := by decide +kernel
theorem dX11_undo_11 : decode cX11_undo 11 = .ok (.dup, 1) := by decide +kernel
theorem dX11_undo_12 : decode cX11_undo 12 = .ok (.getfield 28, 3) := by decide +kernel
theorem dX11_undo_15 : decode cX11_undo 15 = .ok (.iconst 1, 1) := by decide +kernel
theorem dX11_undo_16 : decode cX11_undo 16 = .ok (.isub, 1) := by decide +kernel
theorem dX11_undo_17 : decode cX11_undo 17 = .ok (.putfield 28, 3) := by decide +kernel
theorem dX11_undo_20 : decode cX11_undo 20 = .ok (.iconst 0, 1) := by decide +kernel
theorem dX11_undo_21 : decode cX11_undo 21 = .ok (.istore_n 1, 1) := by decide +kernel
theorem dX11_undo_22 : decode cX11_undo 22 = .ok (.iload_n 1, 1) := by decide +kernel
theorem dX11_undo_23 : decode cX11_undo 23 = .ok (.sipush 229, 3) := by decide +kernel
theorem dX11_undo_26 : decode cX11_undo 26 = .ok (.if_icmp .ge 30, 3) := by decide +kernel
theorem dX11_undo_29 : decode cX11_undo 29 = .ok (.aload_n 0, 1) := by decide +kernel
theorem dX11_undo_30 : decode cX11_undo 30 = .ok (.getfield 7, 3) := by decide +kernel
theorem dX11_undo_33 : decode cX11_undo 33 = .ok (.iload_n 1, 1) := by decide +kernel
theorem dX11_undo_34 : decode cX11_undo 34 = .ok (.aload_n 0, 1) := by decide +kernel
theorem dX11_undo_35 : decode cX11_undo 35 = .ok (.getfield 19, 3) := by decide +kernel
theorem dX11_undo_38 : decode cX11_undo 38 = .ok (.sipush 229, 3) := by decide +kernel
theorem dX11_undo_41 : decode cX11_undo 41 = .ok (.aload_n 0, 1) := by decide +kernel
theorem dX11_undo_42 : decode cX11_undo 42 = .ok (.getfield 28, 3) := by decide +kernel
theorem dX11_undo_45 : decode cX11_undo 45 = .ok (.imul, 1) := by decide +kernel
theorem dX11_undo_46 : decode cX11_undo 46 = .ok (.iload_n 1, 1) := by decide +kernel
theorem dX11_undo_47 : decode cX11_undo 47 = .ok (.iadd, 1) := by decide +kernel
theorem dX11_undo_48 : decode cX11_undo 48 = .ok (.iaload, 1) := by decide +kernel
theorem dX11_undo_49 : decode cX11_undo 49 = .ok (.iastore, 1) := by decide +kernel
theorem dX11_undo_50 : decode cX11_undo 50 = .ok (.iinc 1 1, 3) := by decide +kernel
theorem dX11_undo_53 : decode cX11_undo 53 = .ok (.goto (-31), 3) := by decide +kernel
theorem dX11_undo_56 : decode cX11_undo 56 = .ok (.aload_n 0, 1) := by decide +kernel
theorem dX11_undo_57 : decode cX11_undo 57 = .ok (.getfield 28, 3) := by decide +kernel
theorem dX11_undo_60 : decode cX11_undo 60 = .ok (.ireturn, 1) := by decide +kernel
theorem dX11_type_0 : decode cX11_type 0 = .ok (.iload_n 1, 1) := by decide +kernel
theorem dX11_type_1 : decode cX11_type 1 = .ok (.bipush 32, 2) := by decide +kernel
theorem dX11_type_3 : decode cX11_type 3 = .ok (.bipush 126, 2) := by decide +kernel
theorem dX11_type_5 : decode cX11_type 5 = .ok (.invokestatic 32, 3) := by decide +kernel
theorem dX11_type_8 : decode cX11_type 8 = .ok (.ifCond .ne 5, 3) := by decide +kernel
theorem dX11_type_11 : decode cX11_type 11 = .ok (.iconst (-1), 1) := by decide +kernel
theorem dX11_type_12 : decode cX11_type 12 = .ok (.ireturn, 1) := by decide +kernel
theorem dX11_type_13 : decode cX11_type 13 = .ok (.aload_n 0, 1) := by decide +kernel
theorem dX11_type_14 : decode cX11_type 14 = .ok (.getfield 161, 3) := by decide +kernel
theorem dX11_type_17 : decode cX11_type 17 = .ok (.bipush 80, 2) := by decide +kernel
theorem dX11_type_19 : decode cX11_type 19 = .ok (.if_icmp .ne 6, 3) := by decide +kernel
theorem dX11_type_22 : decode cX11_type 22 = .ok (.bipush (-3), 2) := by decide +kernel
theorem dX11_type_24 : decode cX11_type 24 = .ok (.ireturn, 1) := by decide +kernel
theorem dX11_type_25 : decode cX11_type 25 = .ok (.aload_n 0, 1) := by decide +kernel
theorem dX11_type_26 : decode cX11_type 26 = .ok (.getfield 22, 3) := by decide +kernel
theorem dX11_type_29 : decode cX11_type 29 = .ok (.aload_n 0, 1) := by decide +kernel
theorem dX11_type_30 : decode cX11_type 30 = .ok (.getfield 161, 3) := by decide +kernel
theorem dX11_type_33 : decode cX11_type 33 = .ok (.iload_n 1, 1) := by decide +kernel
theorem dX11_type_34 : decode cX11_type 34 = .ok (.iastore, 1) := by decide +kernel
theorem dX11_type_35 : decode cX11_type 35 = .ok (.aload_n 0, 1) := by decide +kernel
theorem dX11_type_36 : decode cX11_type 36 = .ok (.dup, 1) := by decide +kernel
theorem dX11_type_37 : decode cX11_type 37 = .ok (.getfield 161, 3) := by decide +kernel
theorem dX11_type_40 : decode cX11_type 40 = .ok (.iconst 1, 1) := by decide +kernel
theorem dX11_type_41 : decode cX11_type 41 = .ok (.iadd, 1) := by decide +kernel
theorem dX11_type_42 : decode cX11_type 42 = .ok (.putfield 161, 3) := by decide +kernel
theorem dX11_type_45 : decode cX11_type 45 = .ok (.aload_n 0, 1) := by decide +kernel
theorem dX11_type_46 : decode cX11_type 46 = .ok (.getfield 161, 3) := by decide +kernel
theorem dX11_type_49 : decode cX11_type 49 = .ok (.ireturn, 1) := by decide +kernel
theorem dX11_clearText_0 : decode cX11_clearText 0 = .ok (.aload_n 0, 1) := by decide +kernel
theorem dX11_clearText_1 : decode cX11_clearText 1 = .ok (.getfield 161, 3) := by decide +kernel
theorem dX11_clearText_4 : decode cX11_clearText 4 = .ok (.istore_n 1, 1) := by decide +kernel
theorem dX11_clearText_5 : decode cX11_clearText 5 = .ok (.aload_n 0, 1) := by decide +kernel
theorem dX11_clearText_6 : decode cX11_clearText 6 = .ok (.iconst 0, 1) := by decide +kernel
theorem dX11_clearText_7 : decode cX11_clearText 7 = .ok (.putfield 161, 3) := by decide +kernel
theorem dX11_clearText_10 : decode cX11_clearText 10 = .ok (.iload_n 1, 1) := by decide +kernel
theorem dX11_clearText_11 : decode cX11_clearText 11 = .ok (.ireturn, 1) := by decide +kernel
theorem dX11_here_0 : decode cX11_here 0 = .ok (.aload_n 0, 1) := by decide +kernel
theorem dX11_here_1 : decode cX11_here 1 = .ok (.getfield 170, 3) := by decide +kernel
theorem dX11_here_4 : decode cX11_here 4 = .ok (.aload_n 0, 1) := by decide +kernel
theorem dX11_here_5 : decode cX11_here 5 = .ok (.getfield 161, 3) := by decide +kernel
theorem dX11_here_8 : decode cX11_here 8 = .ok (.if_icmp .ge 15, 3) := by decide +kernel
theorem dX11_here_11 : decode cX11_here 11 = .ok (.aload_n 0, 1) := by decide +kernel
theorem dX11_here_12 : decode cX11_here 12 = .ok (.getfield 22, 3) := by decide +kernel
theorem dX11_here_15 : decode cX11_here 15 = .ok (.aload_n 0, 1) := by decide +kernel
theorem dX11_here_16 : decode cX11_here 16 = .ok (.getfield 170, 3) := by decide +kernel
theorem dX11_here_19 : decode cX11_here 19 = .ok (.iaload, 1) := by decide +kernel
theorem dX11_here_20 : decode cX11_here 20 = .ok (.goto 4, 3) := by decide +kernel
theorem dX11_here_23 : decode cX11_here 23 = .ok (.iconst (-1), 1) := by decide +kernel
theorem dX11_here_24 : decode cX11_here 24 = .ok (.ireturn, 1) := by decide +kernel
theorem dX11_must_0 : decode cX11_must 0 = .ok (.aload_n 0, 1) := by decide +kernel
theorem dX11_must_1 : decode cX11_must 1 = .ok (.aload_n 0, 1) := by decide +kernel
theorem dX11_must_2 : decode cX11_must 2 = .ok (.getfield 173, 3) := by decide +kernel
theorem dX11_must_5 : decode cX11_must 5 = .ok (.ifCond .eq 15, 3) := by decide +kernel
theorem dX11_must_8 : decode cX11_must 8 = .ok (.aload_n 0, 1) := by decide +kernel
theorem dX11_must_9 : decode cX11_must 9 = .ok (.invokevirtual 177, 3) := by decide +kernel
theorem dX11_must_12 : decode cX11_must 12 = .ok (.iload_n 1, 1) := by decide +kernel
theorem dX11_must_13 : decode cX11_must 13 = .ok (.if_icmp .ne 7, 3) := by decide +kernel
theorem dX11_must_16 : decode cX11_must 16 = .ok (.iconst 1, 1) := by decide +kernel
theorem dX11_must_17 : decode cX11_must 17 = .ok (.goto 4, 3) := by decide +kernel
theorem dX11_must_20 : decode cX11_must 20 = .ok (.iconst 0, 1) := by decide +kernel
theorem dX11_must_21 : decode cX11_must 21 = .ok (.putfield 173, 3) := by decide +kernel
theorem dX11_must_24 : decode cX11_must 24 = .ok (.aload_n 0, 1) := by decide +kernel
theorem dX11_must_25 : decode cX11_must 25 = .ok (.dup, 1) := by decide +kernel
theorem dX11_must_26 : decode cX11_must 26 = .ok (.getfield 170, 3) := by decide +kernel
theorem dX11_must_29 : decode cX11_must 29 = .ok (.iconst 1, 1) := by decide +kernel
theorem dX11_must_30 : decode cX11_must 30 = .ok (.iadd, 1) := by decide +kernel
theorem dX11_must_31 : decode cX11_must 31 = .ok (.putfield 170, 3) := by decide +kernel
theorem dX11_must_34 : decode cX11_must 34 = .ok (.return_, 1) := by decide +kernel
theorem dX11_readNumber_0 : decode cX11_readNumber 0 = .ok (.aload_n 0, 1) := by decide +kernel
theorem dX11_readNumber_1 : decode cX11_readNumber 1 = .ok (.iload_n 1, 1) := by decide +kernel
theorem dX11_readNumber_2 : decode cX11_readNumber 2 = .ok (.invokevirtual 180, 3) := by decide +kernel
theorem dX11_readNumber_5 : decode cX11_readNumber 5 = .ok (.iconst 0, 1) := by decide +kernel
theorem dX11_readNumber_6 : decode cX11_readNumber 6 = .ok (.istore_n 2, 1) := by decide +kernel
theorem dX11_readNumber_7 : decode cX11_readNumber 7 = .ok (.iconst 0, 1) := by decide +kernel
theorem dX11_readNumber_8 : decode cX11_readNumber 8 = .ok (.istore_n 3, 1) := by decide +kernel
theorem dX11_readNumber_9 : decode cX11_readNumber 9 = .ok (.iload_n 3, 1) := by decide +kernel
theorem dX11_readNumber_10 : decode cX11_readNumber 10 = .ok (.iconst 3, 1) := by decide +kernel
theorem dX11_readNumber_11 : decode cX11_readNumber 11 = .ok (.if_icmp .ge 46, 3) := by decide +kernel
theorem dX11_readNumber_14 : decode cX11_readNumber 14 = .ok (.aload_n 0, 1) := by decide +kernel
theorem dX11_readNumber_15 : decode cX11_readNumber 15 = .ok (.invokevirtual 177, 3) := by decide +kernel
theorem dX11_readNumber_18 : decode cX11_readNumber 18 = .ok (.bipush 48, 2) := by decide +kernel
theorem dX11_readNumber_20 : decode cX11_readNumber 20 = .ok (.bipush 57, 2) := by decide +kernel
theorem dX11_readNumber_22 : decode cX11_readNumber 22 = .ok (.invokestatic 32, 3) := by decide +kernel
theorem dX11_readNumber_25 : decode cX11_readNumber 25 = .ok (.ifCond .eq 32, 3) := by decide +kernel
theorem dX11_readNumber_28 : decode cX11_readNumber 28 = .ok (.bipush 10, 2) := by decide +kernel
theorem dX11_readNumber_30 : decode cX11_readNumber 30 = .ok (.iload_n 2, 1) := by decide +kernel
theorem dX11_readNumber_31 : decode cX11_readNumber 31 = .ok (.imul, 1) := by decide +kernel
theorem dX11_readNumber_32 : decode cX11_readNumber 32 = .ok (.aload_n 0, 1) := by decide +kernel
theorem dX11_readNumber_33 : decode cX11_readNumber 33 = .ok (.invokevirtual 177, 3) := by decide +kernel
theorem dX11_readNumber_36 : decode cX11_readNumber 36 = .ok (.iadd, 1) := by decide +kernel
theorem dX11_readNumber_37 : decode cX11_readNumber 37 = .ok (.bipush 48, 2) := by decide +kernel
theorem dX11_readNumber_39 : decode cX11_readNumber 39 = .ok (.isub, 1) := by decide +kernel
theorem dX11_readNumber_40 : decode cX11_readNumber 40 = .ok (.istore_n 2, 1) := by decide +kernel
theorem dX11_readNumber_41 : decode cX11_readNumber 41 = .ok (.iinc 3 1, 3) := by decide +kernel
theorem dX11_readNumber_44 : decode cX11_readNumber 44 = .ok (.aload_n 0, 1) := by decide +kernel
theorem dX11_readNumber_45 : decode cX11_readNumber 45 = .ok (.dup, 1) := by decide +kernel
theorem dX11_readNumber_46 : decode cX11_readNumber 46 = .ok (.getfield 170, 3) := by decide +kernel
theorem dX11_readNumber_49 : decode cX11_readNumber 49 = .ok (.iconst 1, 1) := by decide +kernel
theorem dX11_readNumber_50 : decode cX11_readNumber 50 = .ok (.iadd, 1) := by decide +kernel
theorem dX11_readNumber_51 : decode cX11_readNumber 51 = .ok (.putfield 170, 3) := by decide +kernel
theorem dX11_readNumber_54 : decode cX11_readNumber 54 = .ok (.goto (-45), 3) := by decide +kernel
theorem dX11_readNumber_57 : decode cX11_readNumber 57 = .ok (.aload_n 0, 1) := by decide +kernel
theorem dX11_readNumber_58 : decode cX11_readNumber 58 = .ok (.aload_n 0, 1) := by decide +kernel
theorem dX11_readNumber_59 : decode cX11_readNumber 59 = .ok (.getfield 173, 3) := by decide +kernel
theorem dX11_readNumber_62 : decode cX11_readNumber 62 = .ok (.ifCond .eq 11, 3) := by decide +kernel
theorem dX11_readNumber_65 : decode cX11_readNumber 65 = .ok (.iload_n 3, 1) := by decide +kernel
theorem dX11_readNumber_66 : decode cX11_readNumber 66 = .ok (.ifCond .le 7, 3) := by decide +kernel
theorem dX11_readNumber_69 : decode cX11_readNumber 69 = .ok (.iconst 1, 1) := by decide +kernel
theorem dX11_readNumber_70 : decode cX11_readNumber 70 = .ok (.goto 4, 3) := by decide +kernel
theorem dX11_readNumber_73 : decode cX11_readNumber 73 = .ok (.iconst 0, 1) := by decide +kernel
theorem dX11_readNumber_74 : decode cX11_readNumber 74 = .ok (.putfield 173, 3) := by decide +kernel
theorem dX11_readNumber_77 : decode cX11_readNumber 77 = .ok (.iload_n 2, 1) := by decide +kernel
theorem dX11_readNumber_78 : decode cX11_readNumber 78 = .ok (.ireturn, 1) := by decide +kernel
theorem dX11_command_0 : decode cX11_command 0 = .ok (.aload_n 0, 1) := by decide +kernel
theorem dX11_command_1 : decode cX11_command 1 = .ok (.invokevirtual 177, 3) := by decide +kernel
theorem dX11_command_4 : decode cX11_command 4 = .ok (.istore_n 1, 1) := by decide +kernel
theorem dX11_command_5 : decode cX11_command 5 = .ok (.aload_n 0, 1) := by decide +kernel
theorem dX11_command_6 : decode cX11_command 6 = .ok (.iload_n 1, 1) := by decide +kernel
theorem dX11_command_7 : decode cX11_command 7 = .ok (.bipush 97, 2) := by decide +kernel
theorem dX11_command_9 : decode cX11_command 9 = .ok (.if_icmp .eq 27, 3) := by decide +kernel
theorem dX11_command_12 : decode cX11_command 12 = .ok (.iload_n 1, 1) := by decide +kernel
theorem dX11_command_13 : decode cX11_command 13 = .ok (.bipush 107, 2) := by decide +kernel
theorem dX11_command_15 : decode cX11_command 15 = .ok (.if_icmp .eq 21, 3) := by decide +kernel
theorem dX11_command_18 : decode cX11_command 18 = .ok (.iload_n 1, 1) := by decide +kernel
theorem dX11_command_19 : decode cX11_command 19 = .ok (.bipush 114, 2) := by decide +kernel
theorem dX11_command_21 : decode cX11_command 21 = .ok (.if_icmp .eq 15, 3) := by decide +kernel
theorem dX11_command_24 : decode cX11_command 24 = .ok (.iload_n 1, 1) := by decide +kernel
theorem dX11_command_25 : decode cX11_command 25 = .ok (.bipush 111, 2) := by decide +kernel
theorem dX11_command_27 : decode cX11_command 27 = .ok (.if_icmp .eq 9, 3) := by decide +kernel
theorem dX11_command_30 : decode cX11_command 30 = .ok (.iload_n 1, 1) := by decide +kernel
theorem dX11_command_31 : decode cX11_command 31 = .ok (.bipush 116, 2) := by decide +kernel
theorem dX11_command_33 : decode cX11_command 33 = .ok (.if_icmp .ne 7, 3) := by decide +kernel
theorem dX11_command_36 : decode cX11_command 36 = .ok (.iconst 1, 1) := by decide +kernel
theorem dX11_command_37 : decode cX11_command 37 = .ok (.goto 4, 3) := by decide +kernel
theorem dX11_command_40 : decode cX11_command 40 = .ok (.iconst 0, 1) := by decide +kernel
theorem dX11_command_41 : decode cX11_command 41 = .ok (.putfield 173, 3) := by decide +kernel
theorem dX11_command_44 : decode cX11_command 44 = .ok (.iload_n 1, 1) := by decide +kernel
theorem dX11_command_45 : decode cX11_command 45 = .ok (.bipush 97, 2) := by decide +kernel
theorem dX11_command_47 : decode cX11_command 47 = .ok (.if_icmp .ne 7, 3) := by decide +kernel
theorem dX11_command_50 : decode cX11_command 50 = .ok (.iconst 2, 1) := by decide +kernel
theorem dX11_command_51 : decode cX11_command 51 = .ok (.goto 14, 3) := by decide +kernel
theorem dX11_command_54 : decode cX11_command 54 = .ok (.iload_n 1, 1) := by decide +kernel
theorem dX11_command_55 : decode cX11_command 55 = .ok (.bipush 111, 2) := by decide +kernel
theorem dX11_command_57 : decode cX11_command 57 = .ok (.if_icmp .ne 7, 3) := by decide +kernel
theorem dX11_command_60 : decode cX11_command 60 = .ok (.iconst 3, 1) := by decide +kernel
theorem dX11_command_61 : decode cX11_command 61 = .ok (.goto 4, 3) := by decide +kernel
theorem dX11_command_64 : decode cX11_command 64 = .ok (.iconst 1, 1) := by decide +kernel
theorem dX11_command_65 : decode cX11_command 65 = .ok (.istore_n 2, 1) := by decide +kernel
theorem dX11_command_66 : decode cX11_command 66 = .ok (.iconst 0, 1) := by decide +kernel
theorem dX11_command_67 : decode cX11_command 67 = .ok (.istore_n 3, 1) := by decide +kernel
theorem dX11_command_68 : decode cX11_command 68 = .ok (.iload_n 3, 1) := by decide +kernel
theorem dX11_command_69 : decode cX11_command 69 = .ok (.iload_n 2, 1) := by decide +kernel
theorem dX11_command_70 : decode cX11_command 70 = .ok (.if_icmp .ge 29, 3) := by decide +kernel
theorem dX11_command_73 : decode cX11_command 73 = .ok (.aload_n 0, 1) := by decide +kernel
theorem dX11_command_74 : decode cX11_command 74 = .ok (.getfield 25, 3) := by decide +kernel
theorem dX11_command_77 : decode cX11_command 77 = .ok (.iload_n 3, 1) := by decide +kernel
theorem dX11_command_78 : decode cX11_command 78 = .ok (.aload_n 0, 1) := by decide +kernel
theorem dX11_command_79 : decode cX11_command 79 = .ok (.iload_n 3, 1) := by decide +kernel
theorem dX11_command_80 : decode cX11_command 80 = .ok (.ifCond .ne 7, 3) := by decide +kernel
theorem dX11_command_83 : decode cX11_command 83 = .ok (.iload_n 1, 1) := by decide +kernel
theorem dX11_command_84 : decode cX11_command 84 = .ok (.goto 5, 3) := by decide +kernel
theorem dX11_command_87 : decode cX11_command 87 = .ok (.bipush 44, 2) := by decide +kernel
theorem dX11_command_89 : decode cX11_command 89 = .ok (.invokevirtual 183, 3) := by decide +kernel
theorem dX11_command_92 : decode cX11_command 92 = .ok (.iastore, 1) := by decide +kernel
theorem dX11_command_93 : decode cX11_command 93 = .ok (.iinc 3 1, 3) := by decide +kernel
theorem dX11_command_96 : decode cX11_command 96 = .ok (.goto (-28), 3) := by decide +kernel
theorem dX11_command_99 : decode cX11_command 99 = .ok (.aload_n 0, 1) := by decide +kernel
theorem dX11_command_100 : decode cX11_command 100 = .ok (.bipush 59, 2) := by decide +kernel
theorem dX11_command_102 : decode cX11_command 102 = .ok (.invokevirtual 180, 3) := by decide +kernel
theorem dX11_command_105 : decode cX11_command 105 = .ok (.aload_n 0, 1) := by decide +kernel
theorem dX11_command_106 : decode cX11_command 106 = .ok (.getfield 173, 3) := by decide +kernel
theorem dX11_command_109 : decode cX11_command 109 = .ok (.ifCond .ne 5, 3) := by decide +kernel
theorem dX11_command_112 : decode cX11_command 112 = .ok (.iconst 0, 1) := by decide +kernel
theorem dX11_command_113 : decode cX11_command 113 = .ok (.ireturn, 1) := by decide +kernel
theorem dX11_command_114 : decode cX11_command 114 = .ok (.iload_n 1, 1) := by decide +kernel
theorem dX11_command_115 : decode cX11_command 115 = .ok (.lookupswitch 103 #[(97, 41), (107, 58), (111, 80), (114, 69)], 41) := by decide +kernel
theorem dX11_command_156 : decode cX11_command 156 = .ok (.aload_n 0, 1) := by decide +kernel
theorem dX11_command_157 : decode cX11_command 157 = .ok (.aload_n 0, 1) := by decide +kernel
theorem dX11_command_158 : decode cX11_command 158 = .ok (.getfield 25, 3) := by decide +kernel
theorem dX11_command_161 : decode cX11_command 161 = .ok (.iconst 0, 1) := by decide +kernel
theorem dX11_command_162 : decode cX11_command 162 = .ok (.iaload, 1) := by decide +kernel
theorem dX11_command_163 : decode cX11_command 163 = .ok (.aload_n 0, 1) := by decide +kernel
theorem dX11_command_164 : decode cX11_command 164 = .ok (.getfield 25, 3) := by decide +kernel
theorem dX11_command_167 : decode cX11_command 167 = .ok (.iconst 1, 1) := by decide +kernel
theorem dX11_command_168 : decode cX11_command 168 = .ok (.iaload, 1) := by decide +kernel
theorem dX11_command_169 : decode cX11_command 169 = .ok (.invokevirtual 136, 3) := by decide +kernel
theorem dX11_command_172 : decode cX11_command 172 = .ok (.ireturn, 1) := by decide +kernel
theorem dX11_command_173 : decode cX11_command 173 = .ok (.aload_n 0, 1) := by decide +kernel
theorem dX11_command_174 : decode cX11_command 174 = .ok (.aload_n 0, 1) := by decide +kernel
theorem dX11_command_175 : decode cX11_command 175 = .ok (.getfield 25, 3) := by decide +kernel
theorem dX11_command_178 : decode cX11_command 178 = .ok (.iconst 0, 1) := by decide +kernel
theorem dX11_command_179 : decode cX11_command 179 = .ok (.iaload, 1) := by decide +kernel
theorem dX11_command_180 : decode cX11_command 180 = .ok (.invokevirtual 139, 3) := by decide +kernel
theorem dX11_command_183 : decode cX11_command 183 = .ok (.ireturn, 1) := by decide +kernel
theorem dX11_command_184 : decode cX11_command 184 = .ok (.aload_n 0, 1) := by decide +kernel
theorem dX11_command_185 : decode cX11_command 185 = .ok (.aload_n 0, 1) := by decide +kernel
theorem dX11_command_186 : decode cX11_command 186 = .ok (.getfield 25, 3) := by decide +kernel
theorem dX11_command_189 : decode cX11_command 189 = .ok (.iconst 0, 1) := by decide +kernel
theorem dX11_command_190 : decode cX11_command 190 = .ok (.iaload, 1) := by decide +kernel
theorem dX11_command_191 : decode cX11_command 191 = .ok (.invokevirtual 142, 3) := by decide +kernel
theorem dX11_command_194 : decode cX11_command 194 = .ok (.ireturn, 1) := by decide +kernel
theorem dX11_command_195 : decode cX11_command 195 = .ok (.aload_n 0, 1) := by decide +kernel
theorem dX11_command_196 : decode cX11_command 196 = .ok (.aload_n 0, 1) := by decide +kernel
theorem dX11_command_197 : decode cX11_command 197 = .ok (.getfield 25, 3) := by decide +kernel
theorem dX11_command_200 : decode cX11_command 200 = .ok (.iconst 0, 1) := by decide +kernel
theorem dX11_command_201 : decode cX11_command 201 = .ok (.iaload, 1) := by decide +kernel
theorem dX11_command_202 : decode cX11_command 202 = .ok (.aload_n 0, 1) := by decide +kernel
theorem dX11_command_203 : decode cX11_command 203 = .ok (.getfield 25, 3) := by decide +kernel
theorem dX11_command_206 : decode cX11_command 206 = .ok (.iconst 1, 1) := by decide +kernel
theorem dX11_command_207 : decode cX11_command 207 = .ok (.iaload, 1) := by decide +kernel
theorem dX11_command_208 : decode cX11_command 208 = .ok (.aload_n 0, 1) := by decide +kernel
theorem dX11_command_209 : decode cX11_command 209 = .ok (.getfield 25, 3) := by decide +kernel
theorem dX11_command_212 : decode cX11_command 212 = .ok (.iconst 2, 1) := by decide +kernel
theorem dX11_command_213 : decode cX11_command 213 = .ok (.iaload, 1) := by decide +kernel
theorem dX11_command_214 : decode cX11_command 214 = .ok (.invokevirtual 133, 3) := by decide +kernel
theorem dX11_command_217 : decode cX11_command 217 = .ok (.ireturn, 1) := by decide +kernel
theorem dX11_command_218 : decode cX11_command 218 = .ok (.aload_n 0, 1) := by decide +kernel
theorem dX11_command_219 : decode cX11_command 219 = .ok (.aload_n 0, 1) := by decide +kernel
theorem dX11_command_220 : decode cX11_command 220 = .ok (.getfield 25, 3) := by decide +kernel
theorem dX11_command_223 : decode cX11_command 223 = .ok (.iconst 0, 1) := by decide +kernel
theorem dX11_command_224 : decode cX11_command 224 = .ok (.iaload, 1) := by decide +kernel
theorem dX11_command_225 : decode cX11_command 225 = .ok (.invokevirtual 145, 3) := by decide +kernel
theorem dX11_command_228 : decode cX11_command 228 = .ok (.ireturn, 1) := by decide +kernel
theorem dX11_does_0 : decode cX11_does 0 = .ok (.aload_n 0, 1) := by decide +kernel
theorem dX11_does_1 : decode cX11_does 1 = .ok (.iconst 0, 1) := by decide +kernel
theorem dX11_does_2 : decode cX11_does 2 = .ok (.putfield 170, 3) := by decide +kernel
theorem dX11_does_5 : decode cX11_does 5 = .ok (.iconst 0, 1) := by decide +kernel
theorem dX11_does_6 : decode cX11_does 6 = .ok (.istore_n 1, 1) := by decide +kernel
theorem dX11_does_7 : decode cX11_does 7 = .ok (.aload_n 0, 1) := by decide +kernel
theorem dX11_does_8 : decode cX11_does 8 = .ok (.getfield 170, 3) := by decide +kernel
theorem dX11_does_11 : decode cX11_does 11 = .ok (.aload_n 0, 1) := by decide +kernel
theorem dX11_does_12 : decode cX11_does 12 = .ok (.getfield 161, 3) := by decide +kernel
theorem dX11_does_15 : decode cX11_does 15 = .ok (.if_icmp .ge 61, 3) := by decide +kernel
theorem dX11_does_18 : decode cX11_does 18 = .ok (.aload_n 0, 1) := by decide +kernel
theorem dX11_does_19 : decode cX11_does 19 = .ok (.getfield 170, 3) := by decide +kernel
theorem dX11_does_22 : decode cX11_does 22 = .ok (.istore_n 2, 1) := by decide +kernel
theorem dX11_does_23 : decode cX11_does 23 = .ok (.aload_n 0, 1) := by decide +kernel
theorem dX11_does_24 : decode cX11_does 24 = .ok (.invokevirtual 186, 3) := by decide +kernel
theorem dX11_does_27 : decode cX11_does 27 = .ok (.istore_n 3, 1) := by decide +kernel
theorem dX11_does_28 : decode cX11_does 28 = .ok (.aload_n 0, 1) := by decide +kernel
theorem dX11_does_29 : decode cX11_does 29 = .ok (.aload_n 0, 1) := by decide +kernel
theorem dX11_does_30 : decode cX11_does 30 = .ok (.getfield 173, 3) := by decide +kernel
theorem dX11_does_33 : decode cX11_does 33 = .ok (.ifCond .ne 7, 3) := by decide +kernel
theorem dX11_does_36 : decode cX11_does 36 = .ok (.iconst 1, 1) := by decide +kernel
theorem dX11_does_37 : decode cX11_does 37 = .ok (.goto 21, 3) := by decide +kernel
theorem dX11_does_40 : decode cX11_does 40 = .ok (.iload_n 3, 1) := by decide +kernel
theorem dX11_does_41 : decode cX11_does 41 = .ok (.iconst (-1), 1) := by decide +kernel
theorem dX11_does_42 : decode cX11_does 42 = .ok (.if_icmp .ne 7, 3) := by decide +kernel
theorem dX11_does_45 : decode cX11_does 45 = .ok (.iconst 2, 1) := by decide +kernel
theorem dX11_does_46 : decode cX11_does 46 = .ok (.goto 12, 3) := by decide +kernel
theorem dX11_does_49 : decode cX11_does 49 = .ok (.iload_n 3, 1) := by decide +kernel
theorem dX11_does_50 : decode cX11_does 50 = .ok (.ifCond .ge 7, 3) := by decide +kernel
theorem dX11_does_53 : decode cX11_does 53 = .ok (.iconst 3, 1) := by decide +kernel
theorem dX11_does_54 : decode cX11_does 54 = .ok (.goto 4, 3) := by decide +kernel
theorem dX11_does_57 : decode cX11_does 57 = .ok (.iconst 0, 1) := by decide +kernel
theorem dX11_does_58 : decode cX11_does 58 = .ok (.putfield 189, 3) := by decide +kernel
theorem dX11_does_61 : decode cX11_does 61 = .ok (.aload_n 0, 1) := by decide +kernel
theorem dX11_does_62 : decode cX11_does 62 = .ok (.getfield 189, 3) := by decide +kernel
theorem dX11_does_65 : decode cX11_does 65 = .ok (.ifCond .le 5, 3) := by decide +kernel
theorem dX11_does_68 : decode cX11_does 68 = .ok (.iload_n 2, 1) := by decide +kernel
theorem dX11_does_69 : decode cX11_does 69 = .ok (.ireturn, 1) := by decide +kernel
theorem dX11_does_70 : decode cX11_does 70 = .ok (.iinc 1 1, 3) := by decide +kernel
theorem dX11_does_73 : decode cX11_does 73 = .ok (.goto (-66), 3) := by decide +kernel
theorem dX11_does_76 : decode cX11_does 76 = .ok (.iconst (-1), 1) := by decide +kernel
theorem dX11_does_77 : decode cX11_does 77 = .ok (.iload_n 1, 1) := by decide +kernel
theorem dX11_does_78 : decode cX11_does 78 = .ok (.isub, 1) := by decide +kernel
theorem dX11_does_79 : decode cX11_does 79 = .ok (.ireturn, 1) := by decide +kernel
theorem dX11_fault_0 : decode cX11_fault 0 = .ok (.iload_n 1, 1) := by decide +kernel
theorem dX11_fault_1 : decode cX11_fault 1 = .ok (.iconst 0, 1) := by decide +kernel
theorem dX11_fault_2 : decode cX11_fault 2 = .ok (.iconst 1, 1) := by decide +kernel
theorem dX11_fault_3 : decode cX11_fault 3 = .ok (.invokestatic 32, 3) := by decide +kernel
theorem dX11_fault_6 : decode cX11_fault 6 = .ok (.ifCond .ne 5, 3) := by decide +kernel
theorem dX11_fault_9 : decode cX11_fault 9 = .ok (.iconst (-1), 1) := by decide +kernel
theorem dX11_fault_10 : decode cX11_fault 10 = .ok (.ireturn, 1) := by decide +kernel
theorem dX11_fault_11 : decode cX11_fault 11 = .ok (.aload_n 0, 1) := by decide +kernel
theorem dX11_fault_12 : decode cX11_fault 12 = .ok (.invokevirtual 108, 3) := by decide +kernel
theorem dX11_fault_15 : decode cX11_fault 15 = .ok (.aload_n 0, 1) := by decide +kernel
theorem dX11_fault_16 : decode cX11_fault 16 = .ok (.invokevirtual 192, 3) := by decide +kernel
theorem dX11_fault_19 : decode cX11_fault 19 = .ok (.istore_n 2, 1) := by decide +kernel
theorem dX11_fault_20 : decode cX11_fault 20 = .ok (.aload_n 0, 1) := by decide +kernel
theorem dX11_fault_21 : decode cX11_fault 21 = .ok (.invokevirtual 195, 3) := by decide +kernel
theorem dX11_fault_24 : decode cX11_fault 24 = .ok (.iload_n 2, 1) := by decide +kernel
theorem dX11_fault_25 : decode cX11_fault 25 = .ok (.ifCond .ge 8, 3) := by decide +kernel
theorem dX11_fault_28 : decode cX11_fault 28 = .ok (.bipush (-4), 2) := by decide +kernel
theorem dX11_fault_30 : decode cX11_fault 30 = .ok (.goto 15, 3) := by decide +kernel
theorem dX11_fault_33 : decode cX11_fault 33 = .ok (.iload_n 1, 1) := by decide +kernel
theorem dX11_fault_34 : decode cX11_fault 34 = .ok (.ifCond .ne 7, 3) := by decide +kernel
theorem dX11_fault_37 : decode cX11_fault 37 = .ok (.iload_n 2, 1) := by decide +kernel
theorem dX11_fault_38 : decode cX11_fault 38 = .ok (.goto 7, 3) := by decide +kernel
theorem dX11_fault_41 : decode cX11_fault 41 = .ok (.aload_n 0, 1) := by decide +kernel
theorem dX11_fault_42 : decode cX11_fault 42 = .ok (.getfield 189, 3) := by decide +kernel
theorem dX11_fault_45 : decode cX11_fault 45 = .ok (.ireturn, 1) := by decide +kernel
theorem dX11_play_0 : decode cX11_play 0 = .ok (.aload_n 0, 1) := by decide +kernel
theorem dX11_play_1 : decode cX11_play 1 = .ok (.invokevirtual 108, 3) := by decide +kernel
theorem dX11_play_4 : decode cX11_play 4 = .ok (.aload_n 0, 1) := by decide +kernel
theorem dX11_play_5 : decode cX11_play 5 = .ok (.invokevirtual 192, 3) := by decide +kernel
theorem dX11_play_8 : decode cX11_play 8 = .ok (.istore_n 1, 1) := by decide +kernel
theorem dX11_play_9 : decode cX11_play 9 = .ok (.iload_n 1, 1) := by decide +kernel
theorem dX11_play_10 : decode cX11_play 10 = .ok (.ifCond .lt 10, 3) := by decide +kernel
theorem dX11_play_13 : decode cX11_play 13 = .ok (.aload_n 0, 1) := by decide +kernel
theorem dX11_play_14 : decode cX11_play 14 = .ok (.invokevirtual 195, 3) := by decide +kernel
theorem dX11_play_17 : decode cX11_play 17 = .ok (.bipush (-2), 2) := by decide +kernel
theorem dX11_play_19 : decode cX11_play 19 = .ok (.ireturn, 1) := by decide +kernel
theorem dX11_play_20 : decode cX11_play 20 = .ok (.aload_n 0, 1) := by decide +kernel
theorem dX11_play_21 : decode cX11_play 21 = .ok (.iconst (-1), 1) := by decide +kernel
theorem dX11_play_22 : decode cX11_play 22 = .ok (.iload_n 1, 1) := by decide +kernel
theorem dX11_play_23 : decode cX11_play 23 = .ok (.isub, 1) := by decide +kernel
theorem dX11_play_24 : decode cX11_play 24 = .ok (.invokevirtual 114, 3) := by decide +kernel
theorem dX11_play_27 : decode cX11_play 27 = .ok (.ireturn, 1) := by decide +kernel
theorem dL_law_0 : decode cL_law 0 = .ok (.new 7, 3) := by decide +kernel
theorem dL_law_3 : decode cL_law 3 = .ok (.dup, 1) := by decide +kernel
theorem dL_law_4 : decode cL_law 4 = .ok (.invokespecial 9, 3) := by decide +kernel
theorem dL_law_7 : decode cL_law 7 = .ok (.astore_n 1, 1) := by decide +kernel
theorem dL_law_8 : decode cL_law 8 = .ok (.new 10, 3) := by decide +kernel
theorem dL_law_11 : decode cL_law 11 = .ok (.dup, 1) := by decide +kernel
theorem dL_law_12 : decode cL_law 12 = .ok (.invokespecial 12, 3) := by decide +kernel
theorem dL_law_15 : decode cL_law 15 = .ok (.astore_n 2, 1) := by decide +kernel
theorem dL_law_16 : decode cL_law 16 = .ok (.iconst 0, 1) := by decide +kernel
theorem dL_law_17 : decode cL_law 17 = .ok (.istore_n 3, 1) := by decide +kernel
theorem dL_law_18 : decode cL_law 18 = .ok (.iload_n 3, 1) := by decide +kernel
theorem dL_law_19 : decode cL_law 19 = .ok (.aload_n 0, 1) := by decide +kernel
theorem dL_law_20 : decode cL_law 20 = .ok (.arraylength, 1) := by decide +kernel
theorem dL_law_21 : decode cL_law 21 = .ok (.iconst 4, 1) := by decide +kernel
theorem dL_law_22 : decode cL_law 22 = .ok (.isub, 1) := by decide +kernel
theorem dL_law_23 : decode cL_law 23 = .ok (.if_icmp .gt 833, 3) := by decide +kernel
theorem dL_law_26 : decode cL_law 26 = .ok (.aload_n 0, 1) := by decide +kernel
theorem dL_law_27 : decode cL_law 27 = .ok (.iload_n 3, 1) := by decide +kernel
theorem dL_law_28 : decode cL_law 28 = .ok (.iaload, 1) := by decide +kernel
theorem dL_law_29 : decode cL_law 29 = .ok (.bipush 31, 2) := by decide +kernel
theorem dL_law_31 : decode cL_law 31 = .ok (.iand, 1) := by decide +kernel
theorem dL_law_32 : decode cL_law 32 = .ok (.tableswitch 818 0 25 #[120, 133, 176, 209, 242, 285, 318, 361, 394, 427, 460, 483, 506, 529, 562, 595, 618, 651, 664, 707, 720, 733, 746, 769, 782, 805], 120) := by decide +kernel
theorem dL_law_152 : decode cL_law 152 = .ok (.aload_n 1, 1) := by decide +kernel
theorem dL_law_153 : decode cL_law 153 = .ok (.invokevirtual 13, 3) := by decide +kernel
theorem dL_law_156 : decode cL_law 156 = .ok (.aload_n 2, 1) := by decide +kernel
theorem dL_law_157 : decode cL_law 157 = .ok (.invokevirtual 17, 3) := by decide +kernel
theorem dL_law_160 : decode cL_law 160 = .ok (.if_icmp .eq 690, 3) := by decide +kernel
theorem dL_law_163 : decode cL_law 163 = .ok (.iconst 0, 1) := by decide +kernel
theorem dL_law_164 : decode cL_law 164 = .ok (.ireturn, 1) := by decide +kernel
theorem dL_law_165 : decode cL_law 165 = .ok (.aload_n 1, 1) := by decide +kernel
theorem dL_law_166 : decode cL_law 166 = .ok (.aload_n 0, 1) := by decide +kernel
theorem dL_law_167 : decode cL_law 167 = .ok (.iload_n 3, 1) := by decide +kernel
theorem dL_law_168 : decode cL_law 168 = .ok (.iconst 1, 1) := by decide +kernel
theorem dL_law_169 : decode cL_law 169 = .ok (.iadd, 1) := by decide +kernel
theorem dL_law_170 : decode cL_law 170 = .ok (.iaload, 1) := by decide +kernel
theorem dL_law_171 : decode cL_law 171 = .ok (.aload_n 0, 1) := by decide +kernel
theorem dL_law_172 : decode cL_law 172 = .ok (.iload_n 3, 1) := by decide +kernel
theorem dL_law_173 : decode cL_law 173 = .ok (.iconst 2, 1) := by decide +kernel
theorem dL_law_174 : decode cL_law 174 = .ok (.iadd, 1) := by decide +kernel
theorem dL_law_175 : decode cL_law 175 = .ok (.iaload, 1) := by decide +kernel
theorem dL_law_176 : decode cL_law 176 = .ok (.aload_n 0, 1) := by decide +kernel
theorem dL_law_177 : decode cL_law 177 = .ok (.iload_n 3, 1) := by decide +kernel
theorem dL_law_178 : decode cL_law 178 = .ok (.iconst 3, 1) := by decide +kernel
theorem dL_law_179 : decode cL_law 179 = .ok (.iadd, 1) := by decide +kernel
theorem dL_law_180 : decode cL_law 180 = .ok (.iaload, 1) := by decide +kernel
theorem dL_law_181 : decode cL_law 181 = .ok (.invokevirtual 18, 3) := by decide +kernel
theorem dL_law_184 : decode cL_law 184 = .ok (.aload_n 2, 1) := by decide +kernel
theorem dL_law_185 : decode cL_law 185 = .ok (.aload_n 0, 1) := by decide +kernel
theorem dL_law_186 : decode cL_law 186 = .ok (.iload_n 3, 1) := by decide +kernel
theorem dL_law_187 : decode cL_law 187 = .ok (.iconst 1, 1) := by decide +kernel
theorem dL_law_188 : decode cL_law 188 = .ok (.iadd, 1) := by decide +kernel
theorem dL_law_189 : decode cL_law 189 = .ok (.iaload, 1) := by decide +kernel
theorem dL_law_190 : decode cL_law 190 = .ok (.aload_n 0, 1) := by decide +kernel
theorem dL_law_191 : decode cL_law 191 = .ok (.iload_n 3, 1) := by decide +kernel
theorem dL_law_192 : decode cL_law 192 = .ok (.iconst 2, 1) := by decide +kernel
theorem dL_law_193 : decode cL_law 193 = .ok (.iadd, 1) := by decide +kernel
theorem dL_law_194 : decode cL_law 194 = .ok (.iaload, 1) := by decide +kernel
theorem dL_law_195 : decode cL_law 195 = .ok (.aload_n 0, 1) := by decide +kernel
theorem dL_law_196 : decode cL_law 196 = .ok (.iload_n 3, 1) := by decide +kernel
theorem dL_law_197 : decode cL_law 197 = .ok (.iconst 3, 1) := by decide +kernel
theorem dL_law_198 : decode cL_law 198 = .ok (.iadd, 1) := by decide +kernel
theorem dL_law_199 : decode cL_law 199 = .ok (.iaload, 1) := by decide +kernel
theorem dL_law_200 : decode cL_law 200 = .ok (.invokevirtual 22, 3) := by decide +kernel
theorem dL_law_203 : decode cL_law 203 = .ok (.if_icmp .eq 647, 3) := by decide +kernel
theorem dL_law_206 : decode cL_law 206 = .ok (.iconst 0, 1) := by decide +kernel
theorem dL_law_207 : decode cL_law 207 = .ok (.ireturn, 1) := by decide +kernel
theorem dL_law_208 : decode cL_law 208 = .ok (.aload_n 1, 1) := by decide +kernel
theorem dL_law_209 : decode cL_law 209 = .ok (.aload_n 0, 1) := by decide +kernel
theorem dL_law_210 : decode cL_law 210 = .ok (.iload_n 3, 1) := by decide +kernel
theorem dL_law_211 : decode cL_law 211 = .ok (.iconst 1, 1) := by decide +kernel
theorem dL_law_212 : decode cL_law 212 = .ok (.iadd, 1) := by decide +kernel
theorem dL_law_213 : decode cL_law 213 = .ok (.iaload, 1) := by decide +kernel
theorem dL_law_214 : decode cL_law 214 = .ok (.aload_n 0, 1) := by decide +kernel
theorem dL_law_215 : decode cL_law 215 = .ok (.iload_n 3, 1) := by decide +kernel
theorem dL_law_216 : decode cL_law 216 = .ok (.iconst 2, 1) := by decide +kernel
theorem dL_law_217 : decode cL_law 217 = .ok (.iadd, 1) := by decide +kernel
theorem dL_law_218 : decode cL_law 218 = .ok (.iaload, 1) := by decide +kernel
theorem dL_law_219 : decode cL_law 219 = .ok (.invokevirtual 23, 3) := by decide +kernel
theorem dL_law_222 : decode cL_law 222 = .ok (.aload_n 2, 1) := by decide +kernel
theorem dL_law_223 : decode cL_law 223 = .ok (.aload_n 0, 1) := by decide +kernel
theorem dL_law_224 : decode cL_law 224 = .ok (.iload_n 3, 1) := by decide +kernel
theorem dL_law_225 : decode cL_law 225 = .ok (.iconst 1, 1) := by decide +kernel
theorem dL_law_226 : decode cL_law 226 = .ok (.iadd, 1) := by decide +kernel
theorem dL_law_227 : decode cL_law 227 = .ok (.iaload, 1) := by decide +kernel
theorem dL_law_228 : decode cL_law 228 = .ok (.aload_n 0, 1) := by decide +kernel
theorem dL_law_229 : decode cL_law 229 = .ok (.iload_n 3, 1) := by decide +kernel
theorem dL_law_230 : decode cL_law 230 = .ok (.iconst 2, 1) := by decide +kernel
theorem dL_law_231 : decode cL_law 231 = .ok (.iadd, 1) := by decide +kernel
theorem dL_law_232 : decode cL_law 232 = .ok (.iaload, 1) := by decide +kernel
theorem dL_law_233 : decode cL_law 233 = .ok (.invokevirtual 27, 3) := by decide +kernel
theorem dL_law_236 : decode cL_law 236 = .ok (.if_icmp .eq 614, 3) := by decide +kernel
theorem dL_law_239 : decode cL_law 239 = .ok (.iconst 0, 1) := by decide +kernel
theorem dL_law_240 : decode cL_law 240 = .ok (.ireturn, 1) := by decide +kernel
theorem dL_law_241 : decode cL_law 241 = .ok (.aload_n 1, 1) := by decide +kernel
theorem dL_law_242 : decode cL_law 242 = .ok (.aload_n 0, 1) := by decide +kernel
theorem dL_law_243 : decode cL_law 243 = .ok (.iload_n 3, 1) := by decide +kernel
theorem dL_law_244 : decode cL_law 244 = .ok (.iconst 1, 1) := by decide +kernel
theorem dL_law_245 : decode cL_law 245 = .ok (.iadd, 1) := by decide +kernel
theorem dL_law_246 : decode cL_law 246 = .ok (.iaload, 1) := by decide +kernel
theorem dL_law_247 : decode cL_law 247 = .ok (.aload_n 0, 1) := by decide +kernel
theorem dL_law_248 : decode cL_law 248 = .ok (.iload_n 3, 1) := by decide +kernel
theorem dL_law_249 : decode cL_law 249 = .ok (.iconst 2, 1) := by decide +kernel
theorem dL_law_250 : decode cL_law 250 = .ok (.iadd, 1) := by decide +kernel
theorem dL_law_251 : decode cL_law 251 = .ok (.iaload, 1) := by decide +kernel
theorem dL_law_252 : decode cL_law 252 = .ok (.invokevirtual 28, 3) := by decide +kernel
theorem dL_law_255 : decode cL_law 255 = .ok (.aload_n 2, 1) := by decide +kernel
theorem dL_law_256 : decode cL_law 256 = .ok (.aload_n 0, 1) := by decide +kernel
theorem dL_law_257 : decode cL_law 257 = .ok (.iload_n 3, 1) := by decide +kernel
theorem dL_law_258 : decode cL_law 258 = .ok (.iconst 1, 1) := by decide +kernel
theorem dL_law_259 : decode cL_law 259 = .ok (.iadd, 1) := by decide +kernel
theorem dL_law_260 : decode cL_law 260 = .ok (.iaload, 1) := by decide +kernel
theorem dL_law_261 : decode cL_law 261 = .ok (.aload_n 0, 1) := by decide +kernel
theorem dL_law_262 : decode cL_law 262 = .ok (.iload_n 3, 1) := by decide +kernel
theorem dL_law_263 : decode cL_law 263 = .ok (.iconst 2, 1) := by decide +kernel
theorem dL_law_264 : decode cL_law 264 = .ok (.iadd, 1) := by decide +kernel
theorem dL_law_265 : decode cL_law 265 = .ok (.iaload, 1) := by decide +kernel
theorem dL_law_266 : decode cL_law 266 = .ok (.invokevirtual 31, 3) := by decide +kernel
theorem dL_law_269 : decode cL_law 269 = .ok (.if_icmp .eq 581, 3) := by decide +kernel
theorem dL_law_272 : decode cL_law 272 = .ok (.iconst 0, 1) := by decide +kernel
theorem dL_law_273 : decode cL_law 273 = .ok (.ireturn, 1) := by decide +kernel
theorem dL_law_274 : decode cL_law 274 = .ok (.aload_n 1, 1) := by decide +kernel
theorem dL_law_275 : decode cL_law 275 = .ok (.aload_n 0, 1) := by decide +kernel
theorem dL_law_276 : decode cL_law 276 = .ok (.iload_n 3, 1) := by decide +kernel
theorem dL_law_277 : decode cL_law 277 = .ok (.iconst 1, 1) := by decide +kernel
theorem dL_law_278 : decode cL_law 278 = .ok (.iadd, 1) := by decide +kernel
theorem dL_law_279 : decode cL_law 279 = .ok (.iaload, 1) := by decide +kernel
theorem dL_law_280 : decode cL_law 280 = .ok (.aload_n 0, 1) := by decide +kernel
theorem dL_law_281 : decode cL_law 281 = .ok (.iload_n 3, 1) := by decide +kernel
theorem dL_law_282 : decode cL_law 282 = .ok (.iconst 2, 1) := by decide +kernel
theorem dL_law_283 : decode cL_law 283 = .ok (.iadd, 1) := by decide +kernel
theorem dL_law_284 : decode cL_law 284 = .ok (.iaload, 1) := by decide +kernel
theorem dL_law_285 : decode cL_law 285 = .ok (.aload_n 0, 1) := by decide +kernel
theorem dL_law_286 : decode cL_law 286 = .ok (.iload_n 3, 1) := by decide +kernel
theorem dL_law_287 : decode cL_law 287 = .ok (.iconst 3, 1) := by decide +kernel
theorem dL_law_288 : decode cL_law 288 = .ok (.iadd, 1) := by decide +kernel
theorem dL_law_289 : decode cL_law 289 = .ok (.iaload, 1) := by decide +kernel
theorem dL_law_290 : decode cL_law 290 = .ok (.invokevirtual 32, 3) := by decide +kernel
theorem dL_law_293 : decode cL_law 293 = .ok (.aload_n 2, 1) := by decide +kernel
theorem dL_law_294 : decode cL_law 294 = .ok (.aload_n 0, 1) := by decide +kernel
theorem dL_law_295 : decode cL_law 295 = .ok (.iload_n 3, 1) := by decide +kernel
theorem dL_law_296 : decode cL_law 296 = .ok (.iconst 1, 1) := by decide +kernel
theorem dL_law_297 : decode cL_law 297 = .ok (.iadd, 1) := by decide +kernel
theorem dL_law_298 : decode cL_law 298 = .ok (.iaload, 1) := by decide +kernel
theorem dL_law_299 : decode cL_law 299 = .ok (.aload_n 0, 1) := by decide +kernel
theorem dL_law_300 : decode cL_law 300 = .ok (.iload_n 3, 1) := by decide +kernel
theorem dL_law_301 : decode cL_law 301 = .ok (.iconst 2, 1) := by decide +kernel
theorem dL_law_302 : decode cL_law 302 = .ok (.iadd, 1) := by decide +kernel
theorem dL_law_303 : decode cL_law 303 = .ok (.iaload, 1) := by decide +kernel
theorem dL_law_304 : decode cL_law 304 = .ok (.aload_n 0, 1) := by decide +kernel
theorem dL_law_305 : decode cL_law 305 = .ok (.iload_n 3, 1) := by decide +kernel
theorem dL_law_306 : decode cL_law 306 = .ok (.iconst 3, 1) := by decide +kernel
theorem dL_law_307 : decode cL_law 307 = .ok (.iadd, 1) := by decide +kernel
theorem dL_law_308 : decode cL_law 308 = .ok (.iaload, 1) := by decide +kernel
theorem dL_law_309 : decode cL_law 309 = .ok (.invokevirtual 35, 3) := by decide +kernel
theorem dL_law_312 : decode cL_law 312 = .ok (.if_icmp .eq 538, 3) := by decide +kernel
theorem dL_law_315 : decode cL_law 315 = .ok (.iconst 0, 1) := by decide +kernel
theorem dL_law_316 : decode cL_law 316 = .ok (.ireturn, 1) := by decide +kernel
theorem dL_law_317 : decode cL_law 317 = .ok (.aload_n 1, 1) := by decide +kernel
theorem dL_law_318 : decode cL_law 318 = .ok (.aload_n 0, 1) := by decide +kernel
theorem dL_law_319 : decode cL_law 319 = .ok (.iload_n 3, 1) := by decide +kernel
theorem dL_law_320 : decode cL_law 320 = .ok (.iconst 1, 1) := by decide +kernel
theorem dL_law_321 : decode cL_law 321 = .ok (.iadd, 1) := by decide +kernel
theorem dL_law_322 : decode cL_law 322 = .ok (.iaload, 1) := by decide +kernel
theorem dL_law_323 : decode cL_law 323 = .ok (.aload_n 0, 1) := by decide +kernel
theorem dL_law_324 : decode cL_law 324 = .ok (.iload_n 3, 1) := by decide +kernel
theorem dL_law_325 : decode cL_law 325 = .ok (.iconst 2, 1) := by decide +kernel
theorem dL_law_326 : decode cL_law 326 = .ok (.iadd, 1) := by decide +kernel
theorem dL_law_327 : decode cL_law 327 = .ok (.iaload, 1) := by decide +kernel
theorem dL_law_328 : decode cL_law 328 = .ok (.invokevirtual 36, 3) := by decide +kernel
theorem dL_law_331 : decode cL_law 331 = .ok (.aload_n 2, 1) := by decide +kernel
theorem dL_law_332 : decode cL_law 332 = .ok (.aload_n 0, 1) := by decide +kernel
theorem dL_law_333 : decode cL_law 333 = .ok (.iload_n 3, 1) := by decide +kernel
theorem dL_law_334 : decode cL_law 334 = .ok (.iconst 1, 1) := by decide +kernel
theorem dL_law_335 : decode cL_law 335 = .ok (.iadd, 1) := by decide +kernel
theorem dL_law_336 : decode cL_law 336 = .ok (.iaload, 1) := by decide +kernel
theorem dL_law_337 : decode cL_law 337 = .ok (.aload_n 0, 1) := by decide +kernel
theorem dL_law_338 : decode cL_law 338 = .ok (.iload_n 3, 1) := by decide +kernel
theorem dL_law_339 : decode cL_law 339 = .ok (.iconst 2, 1) := by decide +kernel
theorem dL_law_340 : decode cL_law 340 = .ok (.iadd, 1) := by decide +kernel
theorem dL_law_341 : decode cL_law 341 = .ok (.iaload, 1) := by decide +kernel
theorem dL_law_342 : decode cL_law 342 = .ok (.invokevirtual 39, 3) := by decide +kernel
theorem dL_law_345 : decode cL_law 345 = .ok (.if_icmp .eq 505, 3) := by decide +kernel
theorem dL_law_348 : decode cL_law 348 = .ok (.iconst 0, 1) := by decide +kernel
theorem dL_law_349 : decode cL_law 349 = .ok (.ireturn, 1) := by decide +kernel
theorem dL_law_350 : decode cL_law 350 = .ok (.aload_n 1, 1) := by decide +kernel
theorem dL_law_351 : decode cL_law 351 = .ok (.aload_n 0, 1) := by decide +kernel
theorem dL_law_352 : decode cL_law 352 = .ok (.iload_n 3, 1) := by decide +kernel
theorem dL_law_353 : decode cL_law 353 = .ok (.iconst 1, 1) := by decide +kernel
theorem dL_law_354 : decode cL_law 354 = .ok (.iadd, 1) := by decide +kernel
theorem dL_law_355 : decode cL_law 355 = .ok (.iaload, 1) := by decide +kernel
theorem dL_law_356 : decode cL_law 356 = .ok (.aload_n 0, 1) := by decide +kernel
theorem dL_law_357 : decode cL_law 357 = .ok (.iload_n 3, 1) := by decide +kernel
theorem dL_law_358 : decode cL_law 358 = .ok (.iconst 2, 1) := by decide +kernel
theorem dL_law_359 : decode cL_law 359 = .ok (.iadd, 1) := by decide +kernel
theorem dL_law_360 : decode cL_law 360 = .ok (.iaload, 1) := by decide +kernel
theorem dL_law_361 : decode cL_law 361 = .ok (.aload_n 0, 1) := by decide +kernel
theorem dL_law_362 : decode cL_law 362 = .ok (.iload_n 3, 1) := by decide +kernel
theorem dL_law_363 : decode cL_law 363 = .ok (.iconst 3, 1) := by decide +kernel
theorem dL_law_364 : decode cL_law 364 = .ok (.iadd, 1) := by decide +kernel
theorem dL_law_365 : decode cL_law 365 = .ok (.iaload, 1) := by decide +kernel
theorem dL_law_366 : decode cL_law 366 = .ok (.invokevirtual 40, 3) := by decide +kernel
theorem dL_law_369 : decode cL_law 369 = .ok (.aload_n 2, 1) := by decide +kernel
theorem dL_law_370 : decode cL_law 370 = .ok (.aload_n 0, 1) := by decide +kernel
theorem dL_law_371 : decode cL_law 371 = .ok (.iload_n 3, 1) := by decide +kernel
theorem dL_law_372 : decode cL_law 372 = .ok (.iconst 1, 1) := by decide +kernel
theorem dL_law_373 : decode cL_law 373 = .ok (.iadd, 1) := by decide +kernel
theorem dL_law_374 : decode cL_law 374 = .ok (.iaload, 1) := by decide +kernel
theorem dL_law_375 : decode cL_law 375 = .ok (.aload_n 0, 1) := by decide +kernel
theorem dL_law_376 : decode cL_law 376 = .ok (.iload_n 3, 1) := by decide +kernel
theorem dL_law_377 : decode cL_law 377 = .ok (.iconst 2, 1) := by decide +kernel
theorem dL_law_378 : decode cL_law 378 = .ok (.iadd, 1) := by decide +kernel
theorem dL_law_379 : decode cL_law 379 = .ok (.iaload, 1) := by decide +kernel
theorem dL_law_380 : decode cL_law 380 = .ok (.aload_n 0, 1) := by decide +kernel
theorem dL_law_381 : decode cL_law 381 = .ok (.iload_n 3, 1) := by decide +kernel
theorem dL_law_382 : decode cL_law 382 = .ok (.iconst 3, 1) := by decide +kernel
theorem dL_law_383 : decode cL_law 383 = .ok (.iadd, 1) := by decide +kernel
theorem dL_law_384 : decode cL_law 384 = .ok (.iaload, 1) := by decide +kernel
theorem dL_law_385 : decode cL_law 385 = .ok (.invokevirtual 43, 3) := by decide +kernel
theorem dL_law_388 : decode cL_law 388 = .ok (.if_icmp .eq 462, 3) := by decide +kernel
theorem dL_law_391 : decode cL_law 391 = .ok (.iconst 0, 1) := by decide +kernel
theorem dL_law_392 : decode cL_law 392 = .ok (.ireturn, 1) := by decide +kernel
theorem dL_law_393 : decode cL_law 393 = .ok (.aload_n 1, 1) := by decide +kernel
theorem dL_law_394 : decode cL_law 394 = .ok (.aload_n 0, 1) := by decide +kernel
theorem dL_law_395 : decode cL_law 395 = .ok (.iload_n 3, 1) := by decide +kernel
theorem dL_law_396 : decode cL_law 396 = .ok (.iconst 1, 1) := by decide +kernel
theorem dL_law_397 : decode cL_law 397 = .ok (.iadd, 1) := by decide +kernel
theorem dL_law_398 : decode cL_law 398 = .ok (.iaload, 1) := by decide +kernel
theorem dL_law_399 : decode cL_law 399 = .ok (.aload_n 0, 1) := by decide +kernel
theorem dL_law_400 : decode cL_law 400 = .ok (.iload_n 3, 1) := by decide +kernel
theorem dL_law_401 : decode cL_law 401 = .ok (.iconst 2, 1) := by decide +kernel
theorem dL_law_402 : decode cL_law 402 = .ok (.iadd, 1) := by decide +kernel
theorem dL_law_403 : decode cL_law 403 = .ok (.iaload, 1) := by decide +kernel
theorem dL_law_404 : decode cL_law 404 = .ok (.invokevirtual 44, 3) := by decide +kernel
theorem dL_law_407 : decode cL_law 407 = .ok (.aload_n 2, 1) := by decide +kernel
theorem dL_law_408 : decode cL_law 408 = .ok (.aload_n 0, 1) := by decide +kernel
theorem dL_law_409 : decode cL_law 409 = .ok (.iload_n 3, 1) := by decide +kernel
theorem dL_law_410 : decode cL_law 410 = .ok (.iconst 1, 1) := by decide +kernel
theorem dL_law_411 : decode cL_law 411 = .ok (.iadd, 1) := by decide +kernel
theorem dL_law_412 : decode cL_law 412 = .ok (.iaload, 1) := by decide +kernel
theorem dL_law_413 : decode cL_law 413 = .ok (.aload_n 0, 1) := by decide +kernel
theorem dL_law_414 : decode cL_law 414 = .ok (.iload_n 3, 1) := by decide +kernel
theorem dL_law_415 : decode cL_law 415 = .ok (.iconst 2, 1) := by decide +kernel
theorem dL_law_416 : decode cL_law 416 = .ok (.iadd, 1) := by decide +kernel
theorem dL_law_417 : decode cL_law 417 = .ok (.iaload, 1) := by decide +kernel
theorem dL_law_418 : decode cL_law 418 = .ok (.invokevirtual 47, 3) := by decide +kernel
theorem dL_law_421 : decode cL_law 421 = .ok (.if_icmp .eq 429, 3) := by decide +kernel
theorem dL_law_424 : decode cL_law 424 = .ok (.iconst 0, 1) := by decide +kernel
theorem dL_law_425 : decode cL_law 425 = .ok (.ireturn, 1) := by decide +kernel
theorem dL_law_426 : decode cL_law 426 = .ok (.aload_n 1, 1) := by decide +kernel
theorem dL_law_427 : decode cL_law 427 = .ok (.aload_n 0, 1) := by decide +kernel
theorem dL_law_428 : decode cL_law 428 = .ok (.iload_n 3, 1) := by decide +kernel
theorem dL_law_429 : decode cL_law 429 = .ok (.iconst 1, 1) := by decide +kernel
theorem dL_law_430 : decode cL_law 430 = .ok (.iadd, 1) := by decide +kernel
theorem dL_law_431 : decode cL_law 431 = .ok (.iaload, 1) := by decide +kernel
theorem dL_law_432 : decode cL_law 432 = .ok (.aload_n 0, 1) := by decide +kernel
theorem dL_law_433 : decode cL_law 433 = .ok (.iload_n 3, 1) := by decide +kernel
theorem dL_law_434 : decode cL_law 434 = .ok (.iconst 2, 1) := by decide +kernel
theorem dL_law_435 : decode cL_law 435 = .ok (.iadd, 1) := by decide +kernel
theorem dL_law_436 : decode cL_law 436 = .ok (.iaload, 1) := by decide +kernel
theorem dL_law_437 : decode cL_law 437 = .ok (.invokevirtual 48, 3) := by decide +kernel
theorem dL_law_440 : decode cL_law 440 = .ok (.aload_n 2, 1) := by decide +kernel
theorem dL_law_441 : decode cL_law 441 = .ok (.aload_n 0, 1) := by decide +kernel
theorem dL_law_442 : decode cL_law 442 = .ok (.iload_n 3, 1) := by decide +kernel
theorem dL_law_443 : decode cL_law 443 = .ok (.iconst 1, 1) := by decide +kernel
theorem dL_law_444 : decode cL_law 444 = .ok (.iadd, 1) := by decide +kernel
theorem dL_law_445 : decode cL_law 445 = .ok (.iaload, 1) := by decide +kernel
theorem dL_law_446 : decode cL_law 446 = .ok (.aload_n 0, 1) := by decide +kernel
theorem dL_law_447 : decode cL_law 447 = .ok (.iload_n 3, 1) := by decide +kernel
theorem dL_law_448 : decode cL_law 448 = .ok (.iconst 2, 1) := by decide +kernel
theorem dL_law_449 : decode cL_law 449 = .ok (.iadd, 1) := by decide +kernel
theorem dL_law_450 : decode cL_law 450 = .ok (.iaload, 1) := by decide +kernel
theorem dL_law_451 : decode cL_law 451 = .ok (.invokevirtual 51, 3) := by decide +kernel
theorem dL_law_454 : decode cL_law 454 = .ok (.if_icmp .eq 396, 3) := by decide +kernel
theorem dL_law_457 : decode cL_law 457 = .ok (.iconst 0, 1) := by decide +kernel
theorem dL_law_458 : decode cL_law 458 = .ok (.ireturn, 1) := by decide +kernel
theorem dL_law_459 : decode cL_law 459 = .ok (.aload_n 1, 1) := by decide +kernel
theorem dL_law_460 : decode cL_law 460 = .ok (.aload_n 0, 1) := by decide +kernel
theorem dL_law_461 : decode cL_law 461 = .ok (.iload_n 3, 1) := by decide +kernel
theorem dL_law_462 : decode cL_law 462 = .ok (.iconst 1, 1) := by decide +kernel
theorem dL_law_463 : decode cL_law 463 = .ok (.iadd, 1) := by decide +kernel
theorem dL_law_464 : decode cL_law 464 = .ok (.iaload, 1) := by decide +kernel
theorem dL_law_465 : decode cL_law 465 = .ok (.aload_n 0, 1) := by decide +kernel
theorem dL_law_466 : decode cL_law 466 = .ok (.iload_n 3, 1) := by decide +kernel
theorem dL_law_467 : decode cL_law 467 = .ok (.iconst 2, 1) := by decide +kernel
theorem dL_law_468 : decode cL_law 468 = .ok (.iadd, 1) := by decide +kernel
theorem dL_law_469 : decode cL_law 469 = .ok (.iaload, 1) := by decide +kernel
theorem dL_law_470 : decode cL_law 470 = .ok (.invokevirtual 52, 3) := by decide +kernel
theorem dL_law_473 : decode cL_law 473 = .ok (.aload_n 2, 1) := by decide +kernel
theorem dL_law_474 : decode cL_law 474 = .ok (.aload_n 0, 1) := by decide +kernel
theorem dL_law_475 : decode cL_law 475 = .ok (.iload_n 3, 1) := by decide +kernel
theorem dL_law_476 : decode cL_law 476 = .ok (.iconst 1, 1) := by decide +kernel
theorem dL_law_477 : decode cL_law 477 = .ok (.iadd, 1) := by decide +kernel
theorem dL_law_478 : decode cL_law 478 = .ok (.iaload, 1) := by decide +kernel
theorem dL_law_479 : decode cL_law 479 = .ok (.aload_n 0, 1) := by decide +kernel
theorem dL_law_480 : decode cL_law 480 = .ok (.iload_n 3, 1) := by decide +kernel
theorem dL_law_481 : decode cL_law 481 = .ok (.iconst 2, 1) := by decide +kernel
theorem dL_law_482 : decode cL_law 482 = .ok (.iadd, 1) := by decide +kernel
theorem dL_law_483 : decode cL_law 483 = .ok (.iaload, 1) := by decide +kernel
theorem dL_law_484 : decode cL_law 484 = .ok (.invokevirtual 55, 3) := by decide +kernel
theorem dL_law_487 : decode cL_law 487 = .ok (.if_icmp .eq 363, 3) := by decide +kernel
theorem dL_law_490 : decode cL_law 490 = .ok (.iconst 0, 1) := by decide +kernel
theorem dL_law_491 : decode cL_law 491 = .ok (.ireturn, 1) := by decide +kernel
theorem dL_law_492 : decode cL_law 492 = .ok (.aload_n 1, 1) := by decide +kernel
theorem dL_law_493 : decode cL_law 493 = .ok (.aload_n 0, 1) := by decide +kernel
theorem dL_law_494 : decode cL_law 494 = .ok (.iload_n 3, 1) := by decide +kernel
theorem dL_law_495 : decode cL_law 495 = .ok (.iconst 1, 1) := by decide +kernel
theorem dL_law_496 : decode cL_law 496 = .ok (.iadd, 1) := by decide +kernel
theorem dL_law_497 : decode cL_law 497 = .ok (.iaload, 1) := by decide +kernel
theorem dL_law_498 : decode cL_law 498 = .ok (.invokevirtual 56, 3) := by decide +kernel
theorem dL_law_501 : decode cL_law 501 = .ok (.aload_n 2, 1) := by decide +kernel
theorem dL_law_502 : decode cL_law 502 = .ok (.aload_n 0, 1) := by decide +kernel
theorem dL_law_503 : decode cL_law 503 = .ok (.iload_n 3, 1) := by decide +kernel
theorem dL_law_504 : decode cL_law 504 = .ok (.iconst 1, 1) := by decide +kernel
theorem dL_law_505 : decode cL_law 505 = .ok (.iadd, 1) := by decide +kernel
theorem dL_law_506 : decode cL_law 506 = .ok (.iaload, 1) := by decide +kernel
theorem dL_law_507 : decode cL_law 507 = .ok (.invokevirtual 60, 3) := by decide +kernel
theorem dL_law_510 : decode cL_law 510 = .ok (.if_icmp .eq 340, 3) := by decide +kernel
theorem dL_law_513 : decode cL_law 513 = .ok (.iconst 0, 1) := by decide +kernel
theorem dL_law_514 : decode cL_law 514 = .ok (.ireturn, 1) := by decide +kernel
theorem dL_law_515 : decode cL_law 515 = .ok (.aload_n 1, 1) := by decide +kernel
theorem dL_law_516 : decode cL_law 516 = .ok (.aload_n 0, 1) := by decide +kernel
theorem dL_law_517 : decode cL_law 517 = .ok (.iload_n 3, 1) := by decide +kernel
theorem dL_law_518 : decode cL_law 518 = .ok (.iconst 1, 1) := by decide +kernel
theorem dL_law_519 : decode cL_law 519 = .ok (.iadd, 1) := by decide +kernel
theorem dL_law_520 : decode cL_law 520 = .ok (.iaload, 1) := by decide +kernel
theorem dL_law_521 : decode cL_law 521 = .ok (.invokevirtual 61, 3) := by decide +kernel
theorem dL_law_524 : decode cL_law 524 = .ok (.aload_n 2, 1) := by decide +kernel
theorem dL_law_525 : decode cL_law 525 = .ok (.aload_n 0, 1) := by decide +kernel
theorem dL_law_526 : decode cL_law 526 = .ok (.iload_n 3, 1) := by decide +kernel
theorem dL_law_527 : decode cL_law 527 = .ok (.iconst 1, 1) := by decide +kernel
theorem dL_law_528 : decode cL_law 528 = .ok (.iadd, 1) := by decide +kernel
theorem dL_law_529 : decode cL_law 529 = .ok (.iaload, 1) := by decide +kernel
theorem dL_law_530 : decode cL_law 530 = .ok (.invokevirtual 64, 3) := by decide +kernel
theorem dL_law_533 : decode cL_law 533 = .ok (.if_icmp .eq 317, 3) := by decide +kernel
theorem dL_law_536 : decode cL_law 536 = .ok (.iconst 0, 1) := by decide +kernel
theorem dL_law_537 : decode cL_law 537 = .ok (.ireturn, 1) := by decide +kernel
theorem dL_law_538 : decode cL_law 538 = .ok (.aload_n 1, 1) := by decide +kernel
theorem dL_law_539 : decode cL_law 539 = .ok (.aload_n 0, 1) := by decide +kernel
theorem dL_law_540 : decode cL_law 540 = .ok (.iload_n 3, 1) := by decide +kernel
theorem dL_law_541 : decode cL_law 541 = .ok (.iconst 1, 1) := by decide +kernel
theorem dL_law_542 : decode cL_law 542 = .ok (.iadd, 1) := by decide +kernel
theorem dL_law_543 : decode cL_law 543 = .ok (.iaload, 1) := by decide +kernel
theorem dL_law_544 : decode cL_law 544 = .ok (.invokevirtual 65, 3) := by decide +kernel
theorem dL_law_547 : decode cL_law 547 = .ok (.aload_n 2, 1) := by decide +kernel
theorem dL_law_548 : decode cL_law 548 = .ok (.aload_n 0, 1) := by decide +kernel
theorem dL_law_549 : decode cL_law 549 = .ok (.iload_n 3, 1) := by decide +kernel
theorem dL_law_550 : decode cL_law 550 = .ok (.iconst 1, 1) := by decide +kernel
theorem dL_law_551 : decode cL_law 551 = .ok (.iadd, 1) := by decide +kernel
theorem dL_law_552 : decode cL_law 552 = .ok (.iaload, 1) := by decide +kernel
theorem dL_law_553 : decode cL_law 553 = .ok (.invokevirtual 68, 3) := by decide +kernel
theorem dL_law_556 : decode cL_law 556 = .ok (.if_icmp .eq 294, 3) := by decide +kernel
theorem dL_law_559 : decode cL_law 559 = .ok (.iconst 0, 1) := by decide +kernel
theorem dL_law_560 : decode cL_law 560 = .ok (.ireturn, 1) := by decide +kernel
theorem dL_law_561 : decode cL_law 561 = .ok (.aload_n 1, 1) := by decide +kernel
theorem dL_law_562 : decode cL_law 562 = .ok (.aload_n 0, 1) := by decide +kernel
theorem dL_law_563 : decode cL_law 563 = .ok (.iload_n 3, 1) := by decide +kernel
theorem dL_law_564 : decode cL_law 564 = .ok (.iconst 1, 1) := by decide +kernel
theorem dL_law_565 : decode cL_law 565 = .ok (.iadd, 1) := by decide +kernel
theorem dL_law_566 : decode cL_law 566 = .ok (.iaload, 1) := by decide +kernel
theorem dL_law_567 : decode cL_law 567 = .ok (.aload_n 0, 1) := by decide +kernel
theorem dL_law_568 : decode cL_law 568 = .ok (.iload_n 3, 1) := by decide +kernel
theorem dL_law_569 : decode cL_law 569 = .ok (.iconst 2, 1) := by decide +kernel
theorem dL_law_570 : decode cL_law 570 = .ok (.iadd, 1) := by decide +kernel
theorem dL_law_571 : decode cL_law 571 = .ok (.iaload, 1) := by decide +kernel
theorem dL_law_572 : decode cL_law 572 = .ok (.invokevirtual 69, 3) := by decide +kernel
theorem dL_law_575 : decode cL_law 575 = .ok (.aload_n 2, 1) := by decide +kernel
theorem dL_law_576 : decode cL_law 576 = .ok (.aload_n 0, 1) := by decide +kernel
theorem dL_law_577 : decode cL_law 577 = .ok (.iload_n 3, 1) := by decide +kernel
theorem dL_law_578 : decode cL_law 578 = .ok (.iconst 1, 1) := by decide +kernel
theorem dL_law_579 : decode cL_law 579 = .ok (.iadd, 1) := by decide +kernel
theorem dL_law_580 : decode cL_law 580 = .ok (.iaload, 1) := by decide +kernel
theorem dL_law_581 : decode cL_law 581 = .ok (.aload_n 0, 1) := by decide +kernel
theorem dL_law_582 : decode cL_law 582 = .ok (.iload_n 3, 1) := by decide +kernel
theorem dL_law_583 : decode cL_law 583 = .ok (.iconst 2, 1) := by decide +kernel
theorem dL_law_584 : decode cL_law 584 = .ok (.iadd, 1) := by decide +kernel
theorem dL_law_585 : decode cL_law 585 = .ok (.iaload, 1) := by decide +kernel
theorem dL_law_586 : decode cL_law 586 = .ok (.invokevirtual 72, 3) := by decide +kernel
theorem dL_law_589 : decode cL_law 589 = .ok (.if_icmp .eq 261, 3) := by decide +kernel
theorem dL_law_592 : decode cL_law 592 = .ok (.iconst 0, 1) := by decide +kernel
theorem dL_law_593 : decode cL_law 593 = .ok (.ireturn, 1) := by decide +kernel
theorem dL_law_594 : decode cL_law 594 = .ok (.aload_n 1, 1) := by decide +kernel
theorem dL_law_595 : decode cL_law 595 = .ok (.aload_n 0, 1) := by decide +kernel
theorem dL_law_596 : decode cL_law 596 = .ok (.iload_n 3, 1) := by decide +kernel
theorem dL_law_597 : decode cL_law 597 = .ok (.iconst 1, 1) := by decide +kernel
theorem dL_law_598 : decode cL_law 598 = .ok (.iadd, 1) := by decide +kernel
theorem dL_law_599 : decode cL_law 599 = .ok (.iaload, 1) := by decide +kernel
theorem dL_law_600 : decode cL_law 600 = .ok (.aload_n 0, 1) := by decide +kernel
theorem dL_law_601 : decode cL_law 601 = .ok (.iload_n 3, 1) := by decide +kernel
theorem dL_law_602 : decode cL_law 602 = .ok (.iconst 2, 1) := by decide +kernel
theorem dL_law_603 : decode cL_law 603 = .ok (.iadd, 1) := by decide +kernel
theorem dL_law_604 : decode cL_law 604 = .ok (.iaload, 1) := by decide +kernel
theorem dL_law_605 : decode cL_law 605 = .ok (.invokevirtual 73, 3) := by decide +kernel
theorem dL_law_608 : decode cL_law 608 = .ok (.aload_n 2, 1) := by decide +kernel
theorem dL_law_609 : decode cL_law 609 = .ok (.aload_n 0, 1) := by decide +kernel
theorem dL_law_610 : decode cL_law 610 = .ok (.iload_n 3, 1) := by decide +kernel
theorem dL_law_611 : decode cL_law 611 = .ok (.iconst 1, 1) := by decide +kernel
theorem dL_law_612 : decode cL_law 612 = .ok (.iadd, 1) := by decide +kernel
theorem dL_law_613 : decode cL_law 613 = .ok (.iaload, 1) := by decide +kernel
theorem dL_law_614 : decode cL_law 614 = .ok (.aload_n 0, 1) := by decide +kernel
theorem dL_law_615 : decode cL_law 615 = .ok (.iload_n 3, 1) := by decide +kernel
theorem dL_law_616 : decode cL_law 616 = .ok (.iconst 2, 1) := by decide +kernel
theorem dL_law_617 : decode cL_law 617 = .ok (.iadd, 1) := by decide +kernel
theorem dL_law_618 : decode cL_law 618 = .ok (.iaload, 1) := by decide +kernel
theorem dL_law_619 : decode cL_law 619 = .ok (.invokevirtual 76, 3) := by decide +kernel
theorem dL_law_622 : decode cL_law 622 = .ok (.if_icmp .eq 228, 3) := by decide +kernel
theorem dL_law_625 : decode cL_law 625 = .ok (.iconst 0, 1) := by decide +kernel
theorem dL_law_626 : decode cL_law 626 = .ok (.ireturn, 1) := by decide +kernel
theorem dL_law_627 : decode cL_law 627 = .ok (.aload_n 1, 1) := by decide +kernel
theorem dL_law_628 : decode cL_law 628 = .ok (.aload_n 0, 1) := by decide +kernel
theorem dL_law_629 : decode cL_law 629 = .ok (.iload_n 3, 1) := by decide +kernel
theorem dL_law_630 : decode cL_law 630 = .ok (.iconst 1, 1) := by decide +kernel
theorem dL_law_631 : decode cL_law 631 = .ok (.iadd, 1) := by decide +kernel
theorem dL_law_632 : decode cL_law 632 = .ok (.iaload, 1) := by decide +kernel
theorem dL_law_633 : decode cL_law 633 = .ok (.invokevirtual 77, 3) := by decide +kernel
theorem dL_law_636 : decode cL_law 636 = .ok (.aload_n 2, 1) := by decide +kernel
theorem dL_law_637 : decode cL_law 637 = .ok (.aload_n 0, 1) := by decide +kernel
theorem dL_law_638 : decode cL_law 638 = .ok (.iload_n 3, 1) := by decide +kernel
theorem dL_law_639 : decode cL_law 639 = .ok (.iconst 1, 1) := by decide +kernel
theorem dL_law_640 : decode cL_law 640 = .ok (.iadd, 1) := by decide +kernel
theorem dL_law_641 : decode cL_law 641 = .ok (.iaload, 1) := by decide +kernel
theorem dL_law_642 : decode cL_law 642 = .ok (.invokevirtual 80, 3) := by decide +kernel
theorem dL_law_645 : decode cL_law 645 = .ok (.if_icmp .eq 205, 3) := by decide +kernel
theorem dL_law_648 : decode cL_law 648 = .ok (.iconst 0, 1) := by decide +kernel
theorem dL_law_649 : decode cL_law 649 = .ok (.ireturn, 1) := by decide +kernel
theorem dL_law_650 : decode cL_law 650 = .ok (.aload_n 1, 1) := by decide +kernel
theorem dL_law_651 : decode cL_law 651 = .ok (.aload_n 0, 1) := by decide +kernel
theorem dL_law_652 : decode cL_law 652 = .ok (.iload_n 3, 1) := by decide +kernel
theorem dL_law_653 : decode cL_law 653 = .ok (.iconst 1, 1) := by decide +kernel
theorem dL_law_654 : decode cL_law 654 = .ok (.iadd, 1) := by decide +kernel
theorem dL_law_655 : decode cL_law 655 = .ok (.iaload, 1) := by decide +kernel
theorem dL_law_656 : decode cL_law 656 = .ok (.aload_n 0, 1) := by decide +kernel
theorem dL_law_657 : decode cL_law 657 = .ok (.iload_n 3, 1) := by decide +kernel
theorem dL_law_658 : decode cL_law 658 = .ok (.iconst 2, 1) := by decide +kernel
theorem dL_law_659 : decode cL_law 659 = .ok (.iadd, 1) := by decide +kernel
theorem dL_law_660 : decode cL_law 660 = .ok (.iaload, 1) := by decide +kernel
theorem dL_law_661 : decode cL_law 661 = .ok (.invokevirtual 81, 3) := by decide +kernel
theorem dL_law_664 : decode cL_law 664 = .ok (.aload_n 2, 1) := by decide +kernel
theorem dL_law_665 : decode cL_law 665 = .ok (.aload_n 0, 1) := by decide +kernel
theorem dL_law_666 : decode cL_law 666 = .ok (.iload_n 3, 1) := by decide +kernel
theorem dL_law_667 : decode cL_law 667 = .ok (.iconst 1, 1) := by decide +kernel
theorem dL_law_668 : decode cL_law 668 = .ok (.iadd, 1) := by decide +kernel
theorem dL_law_669 : decode cL_law 669 = .ok (.iaload, 1) := by decide +kernel
theorem dL_law_670 : decode cL_law 670 = .ok (.aload_n 0, 1) := by decide +kernel
theorem dL_law_671 : decode cL_law 671 = .ok (.iload_n 3, 1) := by decide +kernel
theorem dL_law_672 : decode cL_law 672 = .ok (.iconst 2, 1) := by decide +kernel
theorem dL_law_673 : decode cL_law 673 = .ok (.iadd, 1) := by decide +kernel
theorem dL_law_674 : decode cL_law 674 = .ok (.iaload, 1) := by decide +kernel
theorem dL_law_675 : decode cL_law 675 = .ok (.invokevirtual 84, 3) := by decide +kernel
theorem dL_law_678 : decode cL_law 678 = .ok (.if_icmp .eq 172, 3) := by decide +kernel
theorem dL_law_681 : decode cL_law 681 = .ok (.iconst 0, 1) := by decide +kernel
theorem dL_law_682 : decode cL_law 682 = .ok (.ireturn, 1) := by decide +kernel
theorem dL_law_683 : decode cL_law 683 = .ok (.aload_n 1, 1) := by decide +kernel
theorem dL_law_684 : decode cL_law 684 = .ok (.invokevirtual 85, 3) := by decide +kernel
theorem dL_law_687 : decode cL_law 687 = .ok (.aload_n 2, 1) := by decide +kernel
theorem dL_law_688 : decode cL_law 688 = .ok (.invokevirtual 88, 3) := by decide +kernel
theorem dL_law_691 : decode cL_law 691 = .ok (.if_icmp .eq 159, 3) := by decide +kernel
theorem dL_law_694 : decode cL_law 694 = .ok (.iconst 0, 1) := by decide +kernel
theorem dL_law_695 : decode cL_law 695 = .ok (.ireturn, 1) := by decide +kernel
theorem dL_law_696 : decode cL_law 696 = .ok (.aload_n 1, 1) := by decide +kernel
theorem dL_law_697 : decode cL_law 697 = .ok (.aload_n 0, 1) := by decide +kernel
theorem dL_law_698 : decode cL_law 698 = .ok (.iload_n 3, 1) := by decide +kernel
theorem dL_law_699 : decode cL_law 699 = .ok (.iconst 1, 1) := by decide +kernel
theorem dL_law_700 : decode cL_law 700 = .ok (.iadd, 1) := by decide +kernel
theorem dL_law_701 : decode cL_law 701 = .ok (.iaload, 1) := by decide +kernel
theorem dL_law_702 : decode cL_law 702 = .ok (.aload_n 0, 1) := by decide +kernel
theorem dL_law_703 : decode cL_law 703 = .ok (.iload_n 3, 1) := by decide +kernel
theorem dL_law_704 : decode cL_law 704 = .ok (.iconst 2, 1) := by decide +kernel
theorem dL_law_705 : decode cL_law 705 = .ok (.iadd, 1) := by decide +kernel
theorem dL_law_706 : decode cL_law 706 = .ok (.iaload, 1) := by decide +kernel
theorem dL_law_707 : decode cL_law 707 = .ok (.aload_n 0, 1) := by decide +kernel
theorem dL_law_708 : decode cL_law 708 = .ok (.iload_n 3, 1) := by decide +kernel
theorem dL_law_709 : decode cL_law 709 = .ok (.iconst 3, 1) := by decide +kernel
theorem dL_law_710 : decode cL_law 710 = .ok (.iadd, 1) := by decide +kernel
theorem dL_law_711 : decode cL_law 711 = .ok (.iaload, 1) := by decide +kernel
theorem dL_law_712 : decode cL_law 712 = .ok (.invokevirtual 89, 3) := by decide +kernel
theorem dL_law_715 : decode cL_law 715 = .ok (.aload_n 2, 1) := by decide +kernel
theorem dL_law_716 : decode cL_law 716 = .ok (.aload_n 0, 1) := by decide +kernel
theorem dL_law_717 : decode cL_law 717 = .ok (.iload_n 3, 1) := by decide +kernel
theorem dL_law_718 : decode cL_law 718 = .ok (.iconst 1, 1) := by decide +kernel
theorem dL_law_719 : decode cL_law 719 = .ok (.iadd, 1) := by decide +kernel
theorem dL_law_720 : decode cL_law 720 = .ok (.iaload, 1) := by decide +kernel
theorem dL_law_721 : decode cL_law 721 = .ok (.aload_n 0, 1) := by decide +kernel
theorem dL_law_722 : decode cL_law 722 = .ok (.iload_n 3, 1) := by decide +kernel
theorem dL_law_723 : decode cL_law 723 = .ok (.iconst 2, 1) := by decide +kernel
theorem dL_law_724 : decode cL_law 724 = .ok (.iadd, 1) := by decide +kernel
theorem dL_law_725 : decode cL_law 725 = .ok (.iaload, 1) := by decide +kernel
theorem dL_law_726 : decode cL_law 726 = .ok (.aload_n 0, 1) := by decide +kernel
theorem dL_law_727 : decode cL_law 727 = .ok (.iload_n 3, 1) := by decide +kernel
theorem dL_law_728 : decode cL_law 728 = .ok (.iconst 3, 1) := by decide +kernel
theorem dL_law_729 : decode cL_law 729 = .ok (.iadd, 1) := by decide +kernel
theorem dL_law_730 : decode cL_law 730 = .ok (.iaload, 1) := by decide +kernel
theorem dL_law_731 : decode cL_law 731 = .ok (.invokevirtual 92, 3) := by decide +kernel
theorem dL_law_734 : decode cL_law 734 = .ok (.if_icmp .eq 116, 3) := by decide +kernel
theorem dL_law_737 : decode cL_law 737 = .ok (.iconst 0, 1) := by decide +kernel
theorem dL_law_738 : decode cL_law 738 = .ok (.ireturn, 1) := by decide +kernel
theorem dL_law_739 : decode cL_law 739 = .ok (.aload_n 1, 1) := by decide +kernel
theorem dL_law_740 : decode cL_law 740 = .ok (.invokevirtual 93, 3) := by decide +kernel
theorem dL_law_743 : decode cL_law 743 = .ok (.aload_n 2, 1) := by decide +kernel
theorem dL_law_744 : decode cL_law 744 = .ok (.invokevirtual 96, 3) := by decide +kernel
theorem dL_law_747 : decode cL_law 747 = .ok (.if_icmp .eq 103, 3) := by decide +kernel
theorem dL_law_750 : decode cL_law 750 = .ok (.iconst 0, 1) := by decide +kernel
theorem dL_law_751 : decode cL_law 751 = .ok (.ireturn, 1) := by decide +kernel
theorem dL_law_752 : decode cL_law 752 = .ok (.aload_n 1, 1) := by decide +kernel
theorem dL_law_753 : decode cL_law 753 = .ok (.invokevirtual 97, 3) := by decide +kernel
theorem dL_law_756 : decode cL_law 756 = .ok (.aload_n 2, 1) := by decide +kernel
theorem dL_law_757 : decode cL_law 757 = .ok (.invokevirtual 100, 3) := by decide +kernel
theorem dL_law_760 : decode cL_law 760 = .ok (.if_icmp .eq 90, 3) := by decide +kernel
theorem dL_law_763 : decode cL_law 763 = .ok (.iconst 0, 1) := by decide +kernel
theorem dL_law_764 : decode cL_law 764 = .ok (.ireturn, 1) := by decide +kernel
theorem dL_law_765 : decode cL_law 765 = .ok (.aload_n 1, 1) := by decide +kernel
theorem dL_law_766 : decode cL_law 766 = .ok (.invokevirtual 101, 3) := by decide +kernel
theorem dL_law_769 : decode cL_law 769 = .ok (.aload_n 2, 1) := by decide +kernel
theorem dL_law_770 : decode cL_law 770 = .ok (.invokevirtual 104, 3) := by decide +kernel
theorem dL_law_773 : decode cL_law 773 = .ok (.if_icmp .eq 77, 3) := by decide +kernel
theorem dL_law_776 : decode cL_law 776 = .ok (.iconst 0, 1) := by decide +kernel
theorem dL_law_777 : decode cL_law 777 = .ok (.ireturn, 1) := by decide +kernel
theorem dL_law_778 : decode cL_law 778 = .ok (.aload_n 1, 1) := by decide +kernel
theorem dL_law_779 : decode cL_law 779 = .ok (.aload_n 0, 1) := by decide +kernel
theorem dL_law_780 : decode cL_law 780 = .ok (.iload_n 3, 1) := by decide +kernel
theorem dL_law_781 : decode cL_law 781 = .ok (.iconst 1, 1) := by decide +kernel
theorem dL_law_782 : decode cL_law 782 = .ok (.iadd, 1) := by decide +kernel
theorem dL_law_783 : decode cL_law 783 = .ok (.iaload, 1) := by decide +kernel
theorem dL_law_784 : decode cL_law 784 = .ok (.invokevirtual 105, 3) := by decide +kernel
theorem dL_law_787 : decode cL_law 787 = .ok (.aload_n 2, 1) := by decide +kernel
theorem dL_law_788 : decode cL_law 788 = .ok (.aload_n 0, 1) := by decide +kernel
theorem dL_law_789 : decode cL_law 789 = .ok (.iload_n 3, 1) := by decide +kernel
theorem dL_law_790 : decode cL_law 790 = .ok (.iconst 1, 1) := by decide +kernel
theorem dL_law_791 : decode cL_law 791 = .ok (.iadd, 1) := by decide +kernel
theorem dL_law_792 : decode cL_law 792 = .ok (.iaload, 1) := by decide +kernel
theorem dL_law_793 : decode cL_law 793 = .ok (.invokevirtual 108, 3) := by decide +kernel
theorem dL_law_796 : decode cL_law 796 = .ok (.if_icmp .eq 54, 3) := by decide +kernel
theorem dL_law_799 : decode cL_law 799 = .ok (.iconst 0, 1) := by decide +kernel
theorem dL_law_800 : decode cL_law 800 = .ok (.ireturn, 1) := by decide +kernel
theorem dL_law_801 : decode cL_law 801 = .ok (.aload_n 1, 1) := by decide +kernel
theorem dL_law_802 : decode cL_law 802 = .ok (.invokevirtual 109, 3) := by decide +kernel
theorem dL_law_805 : decode cL_law 805 = .ok (.aload_n 2, 1) := by decide +kernel
theorem dL_law_806 : decode cL_law 806 = .ok (.invokevirtual 112, 3) := by decide +kernel
theorem dL_law_809 : decode cL_law 809 = .ok (.if_icmp .eq 41, 3) := by decide +kernel
theorem dL_law_812 : decode cL_law 812 = .ok (.iconst 0, 1) := by decide +kernel
theorem dL_law_813 : decode cL_law 813 = .ok (.ireturn, 1) := by decide +kernel
theorem dL_law_814 : decode cL_law 814 = .ok (.aload_n 1, 1) := by decide +kernel
theorem dL_law_815 : decode cL_law 815 = .ok (.aload_n 0, 1) := by decide +kernel
theorem dL_law_816 : decode cL_law 816 = .ok (.iload_n 3, 1) := by decide +kernel
theorem dL_law_817 : decode cL_law 817 = .ok (.iconst 1, 1) := by decide +kernel
theorem dL_law_818 : decode cL_law 818 = .ok (.iadd, 1) := by decide +kernel
theorem dL_law_819 : decode cL_law 819 = .ok (.iaload, 1) := by decide +kernel
theorem dL_law_820 : decode cL_law 820 = .ok (.invokevirtual 113, 3) := by decide +kernel
theorem dL_law_823 : decode cL_law 823 = .ok (.aload_n 2, 1) := by decide +kernel
theorem dL_law_824 : decode cL_law 824 = .ok (.aload_n 0, 1) := by decide +kernel
theorem dL_law_825 : decode cL_law 825 = .ok (.iload_n 3, 1) := by decide +kernel
theorem dL_law_826 : decode cL_law 826 = .ok (.iconst 1, 1) := by decide +kernel
theorem dL_law_827 : decode cL_law 827 = .ok (.iadd, 1) := by decide +kernel
theorem dL_law_828 : decode cL_law 828 = .ok (.iaload, 1) := by decide +kernel
theorem dL_law_829 : decode cL_law 829 = .ok (.invokevirtual 116, 3) := by decide +kernel
theorem dL_law_832 : decode cL_law 832 = .ok (.if_icmp .eq 18, 3) := by decide +kernel
theorem dL_law_835 : decode cL_law 835 = .ok (.iconst 0, 1) := by decide +kernel
theorem dL_law_836 : decode cL_law 836 = .ok (.ireturn, 1) := by decide +kernel
theorem dL_law_837 : decode cL_law 837 = .ok (.aload_n 1, 1) := by decide +kernel
theorem dL_law_838 : decode cL_law 838 = .ok (.invokevirtual 117, 3) := by decide +kernel
theorem dL_law_841 : decode cL_law 841 = .ok (.aload_n 2, 1) := by decide +kernel
theorem dL_law_842 : decode cL_law 842 = .ok (.invokevirtual 120, 3) := by decide +kernel
theorem dL_law_845 : decode cL_law 845 = .ok (.if_icmp .eq 5, 3) := by decide +kernel
theorem dL_law_848 : decode cL_law 848 = .ok (.iconst 0, 1) := by decide +kernel
theorem dL_law_849 : decode cL_law 849 = .ok (.ireturn, 1) := by decide +kernel
theorem dL_law_850 : decode cL_law 850 = .ok (.iinc 3 4, 3) := by decide +kernel
theorem dL_law_853 : decode cL_law 853 = .ok (.goto (-835), 3) := by decide +kernel
theorem dL_law_856 : decode cL_law 856 = .ok (.iconst 1, 1) := by decide +kernel
theorem dL_law_857 : decode cL_law 857 = .ok (.ireturn, 1) := by decide +kernel
abbrev vwCl : List vw_C := [(RX0, TX0, 2), (RX1, TX1, 6), (RX2, TX2, 14), (RX3, TX3, 4), (RX4, TX4, 4), (RX5, TX5, 6), (RX6, TX6, 7), (RX7, TX7, 2), (RX8, TX8, 3), (RX9, TX9, 10), (RX10, TX10, 4), (RX11, TX11, 11)]
/-! ===== words by their places ===== -/
theorem kr_1 : ∀ w ∈ wsL_law_r1, w ∈ wsL_law := fun _ h => (List.mem_append_left _ (List.mem_append_left _ (List.mem_append_left _ (List.mem_append_left _ (List.mem_append_left _ (List.mem_append_left _ (List.mem_append_left _ (List.mem_append_left _ (List.mem_append_left _ (List.mem_append_left _ (List.mem_append_left _ (List.mem_append_left _ (List.mem_append_left _ (List.mem_append_left _ h))))))))))))))
theorem kr_2 : ∀ w ∈ wsL_law_r2, w ∈ wsL_law := fun _ h => (List.mem_append_left _ (List.mem_append_left _ (List.mem_append_left _ (List.mem_append_left _ (List.mem_append_left _ (List.mem_append_left _ (List.mem_append_left _ (List.mem_append_left _ (List.mem_append_left _ (List.mem_append_left _ (List.mem_append_left _ (List.mem_append_left _ (List.mem_append_left _ (List.mem_append_right _ (List.mem_append_left _ h)))))))))))))))
theorem kr_3 : ∀ w ∈ wsL_law_r3, w ∈ wsL_law := fun _ h => (List.mem_append_left _ (List.mem_append_left _ (List.mem_append_left _ (List.mem_append_left _ (List.mem_append_left _ (List.mem_append_left _ (List.mem_append_left _ (List.mem_append_left _ (List.mem_append_left _ (List.mem_append_left _ (List.mem_append_left _ (List.mem_append_left _ (List.mem_append_left _ (List.mem_append_right _ (List.mem_append_right _ (List.mem_append_left _ h))))))))))))))))
theorem kr_4 : ∀ w ∈ wsL_law_r4, w ∈ wsL_law := fun _ h => (List.mem_append_left _ (List.mem_append_left _ (List.mem_append_left _ (List.mem_append_left _ (List.mem_append_left _ (List.mem_append_left _ (List.mem_append_left _ (List.mem_append_left _ (List.mem_append_left _ (List.mem_append_left _ (List.mem_append_left _ (List.mem_append_left _ (List.mem_append_left _ (List.mem_append_right _ (List.mem_append_right _ (List.mem_append_right _ (List.mem_append_left _ h)))))))))))))))))
theorem kr_5 : ∀ w ∈ wsL_law_r5, w ∈ wsL_law := fun _ h => (List.mem_append_left _ (List.mem_append_left _ (List.mem_append_left _ (List.mem_append_left _ (List.mem_append_left _ (List.mem_append_left _ (List.mem_append_left _ (List.mem_append_left _ (List.mem_append_left _ (List.mem_append_left _ (List.mem_append_left _ (List.mem_append_left _ (List.mem_append_left _ (List.mem_append_right _ (List.mem_append_right _ (List.mem_append_right _ (List.mem_append_right _ (List.mem_append_left _ h))))))))))))))))))
theorem kr_6 : ∀ w ∈ wsL_law_r6, w ∈ wsL_law := fun _ h => (List.mem_append_left _ (List.mem_append_left _ (List.mem_append_left _ (List.mem_append_left _ (List.mem_append_left _ (List.mem_append_left _ (List.mem_append_left _ (List.mem_append_left _ (List.mem_append_left _ (List.mem_append_left _ (List.mem_append_left _ (List.mem_append_left _ (List.mem_append_left _ (List.mem_append_right _ (List.mem_append_right _ (List.mem_append_right _ (List.mem_append_right _ (List.mem_append_right _ (List.mem_append_left _ h)))))))))))))))))))
theorem kr_7 : ∀ w ∈ wsL_law_r7, w ∈ wsL_law := fun _ h => (List.mem_append_left _ (List.mem_append_left _ (List.mem_append_left _ (List.mem_append_left _ (List.mem_append_left _ (List.mem_append_left _ (List.mem_append_left _ (List.mem_append_left _ (List.mem_append_left _ (List.mem_append_left _ (List.mem_append_left _ (List.mem_append_left _ (List.mem_append_left _ (List.mem_append_right _ (List.mem_append_right _ (List.mem_append_right _ (List.mem_append_right _ (List.mem_append_right _ (List.mem_append_right _ (List.mem_append_left _ h))))))))))))))))))))
theorem kr_8 : ∀ w ∈ wsL_law_r8, w ∈ wsL_law := fun _ h => (List.mem_append_left _ (List.mem_append_left _ (List.mem_append_left _ (List.mem_append_left _ (List.mem_append_left _ (List.mem_append_left _ (List.mem_append_left _ (List.mem_append_left _ (List.mem_append_left _ (List.mem_append_left _ (List.mem_append_left _ (List.mem_append_left _ (List.mem_append_left _ (List.mem_append_right _ (List.mem_append_right _ (List.mem_append_right _ (List.mem_append_right _ (List.mem_append_right _ (List.mem_append_right _ (List.mem_append_right _ (List.mem_append_left _ h)))))))))))))))))))))
theorem kr_9 : ∀ w ∈ wsL_law_r9, w ∈ wsL_law := fun _ h => (List.mem_append_left _ (List.mem_append_left _ (List.mem_append_left _ (List.mem_append_left _ (List.mem_append_left _ (List.mem_append_left _ (List.mem_append_left _ (List.mem_append_left _ (List.mem_append_left _ (List.mem_append_left _ (List.mem_append_left _ (List.mem_append_left _ (List.mem_append_left _ (List.mem_append_right _ (List.mem_append_right _ (List.mem_append_right _ (List.mem_append_right _ (List.mem_append_right _ (List.mem_append_right _ (List.mem_append_right _ (List.mem_append_right _ (List.mem_append_left _ h))))))))))))))))))))))
theorem kr_10 : ∀ w ∈ wsL_law_r10, w ∈ wsL_law := fun _ h => (List.mem_append_left _ (List.mem_append_left _ (List.mem_append_left _ (List.mem_append_left _ (List.mem_append_left _ (List.mem_append_left _ (List.mem_append_left _ (List.mem_append_left _ (List.mem_append_left _ (List.mem_append_left _ (List.mem_append_left _ (List.mem_append_left _ (List.mem_append_left _ (List.mem_append_right _ (List.mem_append_right _ (List.mem_append_right _ (List.mem_append_right _ (List.mem_append_right _ (List.mem_append_right _ (List.mem_append_right _ (List.mem_append_right _ (List.mem_append_right _ (List.mem_append_left _ h)))))))))))))))))))))))
theorem kr_11 : ∀ w ∈ wsL_law_r11, w ∈ wsL_law := fun _ h => (List.mem_append_left _ (List.mem_append_left _ (List.mem_append_left _ (List.mem_append_left _ (List.mem_append_left _ (List.mem_append_left _ (List.mem_append_left _ (List.mem_append_left _ (List.mem_append_left _ (List.mem_append_left _ (List.mem_append_left _ (List.mem_append_left _ (List.mem_append_left _ (List.mem_append_right _ (List.mem_append_right _ (List.mem_append_right _ (List.mem_append_right _ (List.mem_append_right _ (List.mem_append_right _ (List.mem_append_right _ (List.mem_append_right _ (List.mem_append_right _ (List.mem_append_right _ (List.mem_append_left _ h))))))))))))))))))))))))
theorem kr_12 : ∀ w ∈ wsL_law_r12, w ∈ wsL_law := fun _ h => (List.mem_append_left _ (List.mem_append_left _ (List.mem_append_left _ (List.mem_append_left _ (List.mem_append_left _ (List.mem_append_left _ (List.mem_append_left _ (List.mem_append_left _ (List.mem_append_left _ (List.mem_append_left _ (List.mem_append_left _ (List.mem_append_left _ (List.mem_append_left _ (List.mem_append_right _ (List.mem_append_right _ (List.mem_append_right _ (List.mem_append_right _ (List.mem_append_right _ (List.mem_append_right _ (List.mem_append_right _ (List.mem_append_right _ (List.mem_append_right _ (List.mem_append_right _ (List.mem_append_right _ (List.mem_append_left _ h)))))))))))))))))))))))))
theorem kr_13 : ∀ w ∈ wsL_law_r13, w ∈ wsL_law := fun _ h => (List.mem_append_left _ (List.mem_append_left _ (List.mem_append_left _ (List.mem_append_left _ (List.mem_append_left _ (List.mem_append_left _ (List.mem_append_left _ (List.mem_append_left _ (List.mem_append_left _ (List.mem_append_left _ (List.mem_append_left _ (List.mem_append_left _ (List.mem_append_left _ (List.mem_append_right _ (List.mem_append_right _ (List.mem_append_right _ (List.mem_append_right _ (List.mem_append_right _ (List.mem_append_right _ (List.mem_append_right _ (List.mem_append_right _ (List.mem_append_right _ (List.mem_append_right _ (List.mem_append_right _ (List.mem_append_right _ (List.mem_append_left _ h))))))))))))))))))))))))))
theorem kr_14 : ∀ w ∈ wsL_law_r14, w ∈ wsL_law := fun _ h => (List.mem_append_left _ (List.mem_append_left _ (List.mem_append_left _ (List.mem_append_left _ (List.mem_append_left _ (List.mem_append_left _ (List.mem_append_left _ (List.mem_append_left _ (List.mem_append_left _ (List.mem_append_left _ (List.mem_append_left _ (List.mem_append_left _ (List.mem_append_left _ (List.mem_append_right _ (List.mem_append_right _ (List.mem_append_right _ (List.mem_append_right _ (List.mem_append_right _ (List.mem_append_right _ (List.mem_append_right _ (List.mem_append_right _ (List.mem_append_right _ (List.mem_append_right _ (List.mem_append_right _ (List.mem_append_right _ (List.mem_append_right _ (List.mem_append_left _ h)))))))))))))))))))))))))))
theorem kr_15 : ∀ w ∈ wsL_law_r15, w ∈ wsL_law := fun _ h => (List.mem_append_left _ (List.mem_append_left _ (List.mem_append_left _ (List.mem_append_left _ (List.mem_append_left _ (List.mem_append_left _ (List.mem_append_left _ (List.mem_append_left _ (List.mem_append_left _ (List.mem_append_left _ (List.mem_append_left _ (List.mem_append_left _ (List.mem_append_left _ (List.mem_append_right _ (List.mem_append_right _ (List.mem_append_right _ (List.mem_append_right _ (List.mem_append_right _ (List.mem_append_right _ (List.mem_append_right _ (List.mem_append_right _ (List.mem_append_right _ (List.mem_append_right _ (List.mem_append_right _ (List.mem_append_right _ (List.mem_append_right _ (List.mem_append_right _ (List.mem_append_left _ h))))))))))))))))))))))))))))
theorem kr_16 : ∀ w ∈ wsL_law_r16, w ∈ wsL_law := fun _ h => (List.mem_append_left _ (List.mem_append_left _ (List.mem_append_left _ (List.mem_append_left _ (List.mem_append_left _ (List.mem_append_left _ (List.mem_append_left _ (List.mem_append_left _ (List.mem_append_left _ (List.mem_append_left _ (List.mem_append_left _ (List.mem_append_left _ (List.mem_append_left _ (List.mem_append_right _ (List.mem_append_right _ (List.mem_append_right _ (List.mem_append_right _ (List.mem_append_right _ (List.mem_append_right _ (List.mem_append_right _ (List.mem_append_right _ (List.mem_append_right _ (List.mem_append_right _ (List.mem_append_right _ (List.mem_append_right _ (List.mem_append_right _ (List.mem_append_right _ (List.mem_append_right _ (List.mem_append_left _ h)))))))))))))))))))))))))))))
theorem kr_17 : ∀ w ∈ wsL_law_r17, w ∈ wsL_law := fun _ h => (List.mem_append_left _ (List.mem_append_left _ (List.mem_append_left _ (List.mem_append_left _ (List.mem_append_left _ (List.mem_append_left _ (List.mem_append_left _ (List.mem_append_left _ (List.mem_append_left _ (List.mem_append_left _ (List.mem_append_left _ (List.mem_append_left _ (List.mem_append_left _ (List.mem_append_right _ (List.mem_append_right _ (List.mem_append_right _ (List.mem_append_right _ (List.mem_append_right _ (List.mem_append_right _ (List.mem_append_right _ (List.mem_append_right _ (List.mem_append_right _ (List.mem_append_right _ (List.mem_append_right _ (List.mem_append_right _ (List.mem_append_right _ (List.mem_append_right _ (List.mem_append_right _ (List.mem_append_right _ (List.mem_append_left _ h))))))))))))))))))))))))))))))
theorem kr_18 : ∀ w ∈ wsL_law_r18, w ∈ wsL_law := fun _ h => (List.mem_append_left _ (List.mem_append_left _ (List.mem_append_left _ (List.mem_append_left _ (List.mem_append_left _ (List.mem_append_left _ (List.mem_append_left _ (List.mem_append_left _ (List.mem_append_left _ (List.mem_append_left _ (List.mem_append_left _ (List.mem_append_left _ (List.mem_append_left _ (List.mem_append_right _ (List.mem_append_right _ (List.mem_append_right _ (List.mem_append_right _ (List.mem_append_right _ (List.mem_append_right _ (List.mem_append_right _ (List.mem_append_right _ (List.mem_append_right _ (List.mem_append_right _ (List.mem_append_right _ (List.mem_append_right _ (List.mem_append_right _ (List.mem_append_right _ (List.mem_append_right _ (List.mem_append_right _ (List.mem_append_right _ (List.mem_append_left _ h)))))))))))))))))))))))))))))))
theorem kr_19 : ∀ w ∈ wsL_law_r19, w ∈ wsL_law := fun _ h => (List.mem_append_left _ (List.mem_append_left _ (List.mem_append_left _ (List.mem_append_left _ (List.mem_append_left _ (List.mem_append_left _ (List.mem_append_left _ (List.mem_append_left _ (List.mem_append_left _ (List.mem_append_left _ (List.mem_append_left _ (List.mem_append_left _ (List.mem_append_left _ (List.mem_append_right _ (List.mem_append_right _ (List.mem_append_right _ (List.mem_append_right _ (List.mem_append_right _ (List.mem_append_right _ (List.mem_append_right _ (List.mem_append_right _ (List.mem_append_right _ (List.mem_append_right _ (List.mem_append_right _ (List.mem_append_right _ (List.mem_append_right _ (List.mem_append_right _ (List.mem_append_right _ (List.mem_append_right _ (List.mem_append_right _ (List.mem_append_right _ (List.mem_append_left _ h))))))))))))))))))))))))))))))))
theorem kr_20 : ∀ w ∈ wsL_law_r20, w ∈ wsL_law := fun _ h => (List.mem_append_left _ (List.mem_append_left _ (List.mem_append_left _ (List.mem_append_left _ (List.mem_append_left _ (List.mem_append_left _ (List.mem_append_left _ (List.mem_append_left _ (List.mem_append_left _ (List.mem_append_left _ (List.mem_append_left _ (List.mem_append_left _ (List.mem_append_left _ (List.mem_append_right _ (List.mem_append_right _ (List.mem_append_right _ (List.mem_append_right _ (List.mem_append_right _ (List.mem_append_right _ (List.mem_append_right _ (List.mem_append_right _ (List.mem_append_right _ (List.mem_append_right _ (List.mem_append_right _ (List.mem_append_right _ (List.mem_append_right _ (List.mem_append_right _ (List.mem_append_right _ (List.mem_append_right _ (List.mem_append_right _ (List.mem_append_right _ (List.mem_append_right _ (List.mem_append_left _ h)))))))))))))))))))))))))))))))))
theorem kr_21 : ∀ w ∈ wsL_law_r21, w ∈ wsL_law := fun _ h => (List.mem_append_left _ (List.mem_append_left _ (List.mem_append_left _ (List.mem_append_left _ (List.mem_append_left _ (List.mem_append_left _ (List.mem_append_left _ (List.mem_append_left _ (List.mem_append_left _ (List.mem_append_left _ (List.mem_append_left _ (List.mem_append_left _ (List.mem_append_left _ (List.mem_append_right _ (List.mem_append_right _ (List.mem_append_right _ (List.mem_append_right _ (List.mem_append_right _ (List.mem_append_right _ (List.mem_append_right _ (List.mem_append_right _ (List.mem_append_right _ (List.mem_append_right _ (List.mem_append_right _ (List.mem_append_right _ (List.mem_append_right _ (List.mem_append_right _ (List.mem_append_right _ (List.mem_append_right _ (List.mem_append_right _ (List.mem_append_right _ (List.mem_append_right _ (List.mem_append_right _ (List.mem_append_left _ h))))))))))))))))))))))))))))))))))
theorem kr_22 : ∀ w ∈ wsL_law_r22, w ∈ wsL_law := fun _ h => (List.mem_append_left _ (List.mem_append_left _ (List.mem_append_left _ (List.mem_append_left _ (List.mem_append_left _ (List.mem_append_left _ (List.mem_append_left _ (List.mem_append_left _ (List.mem_append_left _ (List.mem_append_left _ (List.mem_append_left _ (List.mem_append_left _ (List.mem_append_left _ (List.mem_append_right _ (List.mem_append_right _ (List.mem_append_right _ (List.mem_append_right _ (List.mem_append_right _ (List.mem_append_right _ (List.mem_append_right _ (List.mem_append_right _ (List.mem_append_right _ (List.mem_append_right _ (List.mem_append_right _ (List.mem_append_right _ (List.mem_append_right _ (List.mem_append_right _ (List.mem_append_right _ (List.mem_append_right _ (List.mem_append_right _ (List.mem_append_right _ (List.mem_append_right _ (List.mem_append_right _ (List.mem_append_right _ (List.mem_append_left _ h)))))))))))))))))))))))))))))))))))
theorem kr_23 : ∀ w ∈ wsL_law_r23, w ∈ wsL_law := fun _ h => (List.mem_append_left _ (List.mem_append_left _ (List.mem_append_left _ (List.mem_append_left _ (List.mem_append_left _ (List.mem_append_left _ (List.mem_append_left _ (List.mem_append_left _ (List.mem_append_left _ (List.mem_append_left _ (List.mem_append_left _ (List.mem_append_left _ (List.mem_append_left _ (List.mem_append_right _ (List.mem_append_right _ (List.mem_append_right _ (List.mem_append_right _ (List.mem_append_right _ (List.mem_append_right _ (List.mem_append_right _ (List.mem_append_right _ (List.mem_append_right _ (List.mem_append_right _ (List.mem_append_right _ (List.mem_append_right _ (List.mem_append_right _ (List.mem_append_right _ (List.mem_append_right _ (List.mem_append_right _ (List.mem_append_right _ (List.mem_append_right _ (List.mem_append_right _ (List.mem_append_right _ (List.mem_append_right _ (List.mem_append_right _ (List.mem_append_left _ h))))))))))))))))))))))))))))))))))))
theorem kr_24 : ∀ w ∈ wsL_law_r24, w ∈ wsL_law := fun _ h => (List.mem_append_left _ (List.mem_append_left _ (List.mem_append_left _ (List.mem_append_left _ (List.mem_append_left _ (List.mem_append_left _ (List.mem_append_left _ (List.mem_append_left _ (List.mem_append_left _ (List.mem_append_left _ (List.mem_append_left _ (List.mem_append_left _ (List.mem_append_left _ (List.mem_append_right _ (List.mem_append_right _ (List.mem_append_right _ (List.mem_append_right _ (List.mem_append_right _ (List.mem_append_right _ (List.mem_append_right _ (List.mem_append_right _ (List.mem_append_right _ (List.mem_append_right _ (List.mem_append_right _ (List.mem_append_right _ (List.mem_append_right _ (List.mem_append_right _ (List.mem_append_right _ (List.mem_append_right _ (List.mem_append_right _ (List.mem_append_right _ (List.mem_append_right _ (List.mem_append_right _ (List.mem_append_right _ (List.mem_append_right _ (List.mem_append_right _ (List.mem_append_left _ h)))))))))))))))))))))))))))))))))))))
theorem kr_25 : ∀ w ∈ wsL_law_r25, w ∈ wsL_law := fun _ h => (List.mem_append_left _ (List.mem_append_left _ (List.mem_append_left _ (List.mem_append_left _ (List.mem_append_left _ (List.mem_append_left _ (List.mem_append_left _ (List.mem_append_left _ (List.mem_append_left _ (List.mem_append_left _ (List.mem_append_left _ (List.mem_append_left _ (List.mem_append_left _ (List.mem_append_right _ (List.mem_append_right _ (List.mem_append_right _ (List.mem_append_right _ (List.mem_append_right _ (List.mem_append_right _ (List.mem_append_right _ (List.mem_append_right _ (List.mem_append_right _ (List.mem_append_right _ (List.mem_append_right _ (List.mem_append_right _ (List.mem_append_right _ (List.mem_append_right _ (List.mem_append_right _ (List.mem_append_right _ (List.mem_append_right _ (List.mem_append_right _ (List.mem_append_right _ (List.mem_append_right _ (List.mem_append_right _ (List.mem_append_right _ (List.mem_append_right _ (List.mem_append_right _ (List.mem_append_left _ h))))))))))))))))))))))))))))))))))))))
theorem kr_26 : ∀ w ∈ wsL_law_r26, w ∈ wsL_law := fun _ h => (List.mem_append_left _ (List.mem_append_left _ (List.mem_append_left _ (List.mem_append_left _ (List.mem_append_left _ (List.mem_append_left _ (List.mem_append_left _ (List.mem_append_left _ (List.mem_append_left _ (List.mem_append_left _ (List.mem_append_left _ (List.mem_append_left _ (List.mem_append_left _ (List.mem_append_right _ (List.mem_append_right _ (List.mem_append_right _ (List.mem_append_right _ (List.mem_append_right _ (List.mem_append_right _ (List.mem_append_right _ (List.mem_append_right _ (List.mem_append_right _ (List.mem_append_right _ (List.mem_append_right _ (List.mem_append_right _ (List.mem_append_right _ (List.mem_append_right _ (List.mem_append_right _ (List.mem_append_right _ (List.mem_append_right _ (List.mem_append_right _ (List.mem_append_right _ (List.mem_append_right _ (List.mem_append_right _ (List.mem_append_right _ (List.mem_append_right _ (List.mem_append_right _ (List.mem_append_right _ (List.mem_append_left _ h)))))))))))))))))))))))))))))))))))))))
theorem kr_27 : ∀ w ∈ wsL_law_r27, w ∈ wsL_law := fun _ h => (List.mem_append_left _ (List.mem_append_left _ (List.mem_append_left _ (List.mem_append_left _ (List.mem_append_left _ (List.mem_append_left _ (List.mem_append_left _ (List.mem_append_left _ (List.mem_append_left _ (List.mem_append_left _ (List.mem_append_left _ (List.mem_append_left _ (List.mem_append_left _ (List.mem_append_right _ (List.mem_append_right _ (List.mem_append_right _ (List.mem_append_right _ (List.mem_append_right _ (List.mem_append_right _ (List.mem_append_right _ (List.mem_append_right _ (List.mem_append_right _ (List.mem_append_right _ (List.mem_append_right _ (List.mem_append_right _ (List.mem_append_right _ (List.mem_append_right _ (List.mem_append_right _ (List.mem_append_right _ (List.mem_append_right _ (List.mem_append_right _ (List.mem_append_right _ (List.mem_append_right _ (List.mem_append_right _ (List.mem_append_right _ (List.mem_append_right _ (List.mem_append_right _ (List.mem_append_right _ (List.mem_append_right _ (List.mem_append_left _ h))))))))))))))))))))))))))))))))))))))))
theorem kr_28 : ∀ w ∈ wsL_law_r28, w ∈ wsL_law := fun _ h => (List.mem_append_left _ (List.mem_append_left _ (List.mem_append_left _ (List.mem_append_left _ (List.mem_append_left _ (List.mem_append_left _ (List.mem_append_left _ (List.mem_append_left _ (List.mem_append_left _ (List.mem_append_left _ (List.mem_append_left _ (List.mem_append_left _ (List.mem_append_left _ (List.mem_append_right _ (List.mem_append_right _ (List.mem_append_right _ (List.mem_append_right _ (List.mem_append_right _ (List.mem_append_right _ (List.mem_append_right _ (List.mem_append_right _ (List.mem_append_right _ (List.mem_append_right _ (List.mem_append_right _ (List.mem_append_right _ (List.mem_append_right _ (List.mem_append_right _ (List.mem_append_right _ (List.mem_append_right _ (List.mem_append_right _ (List.mem_append_right _ (List.mem_append_right _ (List.mem_append_right _ (List.mem_append_right _ (List.mem_append_right _ (List.mem_append_right _ (List.mem_append_right _ (List.mem_append_right _ (List.mem_append_right _ (List.mem_append_right _ (List.mem_append_left _ h)))))))))))))))))))))))))))))))))))))))))
theorem kr_29 : ∀ w ∈ wsL_law_r29, w ∈ wsL_law := fun _ h => (List.mem_append_left _ (List.mem_append_left _ (List.mem_append_left _ (List.mem_append_left _ (List.mem_append_left _ (List.mem_append_left _ (List.mem_append_left _ (List.mem_append_left _ (List.mem_append_left _ (List.mem_append_left _ (List.mem_append_left _ (List.mem_append_left _ (List.mem_append_left _ (List.mem_append_right _ (List.mem_append_right _ (List.mem_append_right _ (List.mem_append_right _ (List.mem_append_right _ (List.mem_append_right _ (List.mem_append_right _ (List.mem_append_right _ (List.mem_append_right _ (List.mem_append_right _ (List.mem_append_right _ (List.mem_append_right _ (List.mem_append_right _ (List.mem_append_right _ (List.mem_append_right _ (List.mem_append_right _ (List.mem_append_right _ (List.mem_append_right _ (List.mem_append_right _ (List.mem_append_right _ (List.mem_append_right _ (List.mem_append_right _ (List.mem_append_right _ (List.mem_append_right _ (List.mem_append_right _ (List.mem_append_right _ (List.mem_append_right _ (List.mem_append_right _ (List.mem_append_left _ h))))))))))))))))))))))))))))))))))))))))))
theorem kr_30 : ∀ w ∈ wsL_law_r30, w ∈ wsL_law := fun _ h => (List.mem_append_left _ (List.mem_append_left _ (List.mem_append_left _ (List.mem_append_left _ (List.mem_append_left _ (List.mem_append_left _ (List.mem_append_left _ (List.mem_append_left _ (List.mem_append_left _ (List.mem_append_left _ (List.mem_append_left _ (List.mem_append_left _ (List.mem_append_left _ (List.mem_append_right _ (List.mem_append_right _ (List.mem_append_right _ (List.mem_append_right _ (List.mem_append_right _ (List.mem_append_right _ (List.mem_append_right _ (List.mem_append_right _ (List.mem_append_right _ (List.mem_append_right _ (List.mem_append_right _ (List.mem_append_right _ (List.mem_append_right _ (List.mem_append_right _ (List.mem_append_right _ (List.mem_append_right _ (List.mem_append_right _ (List.mem_append_right _ (List.mem_append_right _ (List.mem_append_right _ (List.mem_append_right _ (List.mem_append_right _ (List.mem_append_right _ (List.mem_append_right _ (List.mem_append_right _ (List.mem_append_right _ (List.mem_append_right _ (List.mem_append_right _ (List.mem_append_right _ (List.mem_append_left _ h)))))))))))))))))))))))))))))))))))))))))))
theorem kr_31 : ∀ w ∈ wsL_law_r31, w ∈ wsL_law := fun _ h => (List.mem_append_left _ (List.mem_append_left _ (List.mem_append_left _ (List.mem_append_left _ (List.mem_append_left _ (List.mem_append_left _ (List.mem_append_left _ (List.mem_append_left _ (List.mem_append_left _ (List.mem_append_left _ (List.mem_append_left _ (List.mem_append_left _ (List.mem_append_left _ (List.mem_append_right _ (List.mem_append_right _ (List.mem_append_right _ (List.mem_append_right _ (List.mem_append_right _ (List.mem_append_right _ (List.mem_append_right _ (List.mem_append_right _ (List.mem_append_right _ (List.mem_append_right _ (List.mem_append_right _ (List.mem_append_right _ (List.mem_append_right _ (List.mem_append_right _ (List.mem_append_right _ (List.mem_append_right _ (List.mem_append_right _ (List.mem_append_right _ (List.mem_append_right _ (List.mem_append_right _ (List.mem_append_right _ (List.mem_append_right _ (List.mem_append_right _ (List.mem_append_right _ (List.mem_append_right _ (List.mem_append_right _ (List.mem_append_right _ (List.mem_append_right _ (List.mem_append_right _ (List.mem_append_right _ (List.mem_append_left _ h))))))))))))))))))))))))))))))))))))))))))))
theorem kr_32 : ∀ w ∈ wsL_law_r32, w ∈ wsL_law := fun _ h => (List.mem_append_left _ (List.mem_append_left _ (List.mem_append_left _ (List.mem_append_left _ (List.mem_append_left _ (List.mem_append_left _ (List.mem_append_left _ (List.mem_append_left _ (List.mem_append_left _ (List.mem_append_left _ (List.mem_append_left _ (List.mem_append_left _ (List.mem_append_left _ (List.mem_append_right _ (List.mem_append_right _ (List.mem_append_right _ (List.mem_append_right _ (List.mem_append_right _ (List.mem_append_right _ (List.mem_append_right _ (List.mem_append_right _ (List.mem_append_right _ (List.mem_append_right _ (List.mem_append_right _ (List.mem_append_right _ (List.mem_append_right _ (List.mem_append_right _ (List.mem_append_right _ (List.mem_append_right _ (List.mem_append_right _ (List.mem_append_right _ (List.mem_append_right _ (List.mem_append_right _ (List.mem_append_right _ (List.mem_append_right _ (List.mem_append_right _ (List.mem_append_right _ (List.mem_append_right _ (List.mem_append_right _ (List.mem_append_right _ (List.mem_append_right _ (List.mem_append_right _ (List.mem_append_right _ (List.mem_append_right _ (List.mem_append_left _ h)))))))))))))))))))))))))))))))))))))))))))))
theorem kr_33 : ∀ w ∈ wsL_law_r33, w ∈ wsL_law := fun _ h => (List.mem_append_left _ (List.mem_append_left _ (List.mem_append_left _ (List.mem_append_left _ (List.mem_append_left _ (List.mem_append_left _ (List.mem_append_left _ (List.mem_append_left _ (List.mem_append_left _ (List.mem_append_left _ (List.mem_append_left _ (List.mem_append_left _ (List.mem_append_left _ (List.mem_append_right _ (List.mem_append_right _ (List.mem_append_right _ (List.mem_append_right _ (List.mem_append_right _ (List.mem_append_right _ (List.mem_append_right _ (List.mem_append_right _ (List.mem_append_right _ (List.mem_append_right _ (List.mem_append_right _ (List.mem_append_right _ (List.mem_append_right _ (List.mem_append_right _ (List.mem_append_right _ (List.mem_append_right _ (List.mem_append_right _ (List.mem_append_right _ (List.mem_append_right _ (List.mem_append_right _ (List.mem_append_right _ (List.mem_append_right _ (List.mem_append_right _ (List.mem_append_right _ (List.mem_append_right _ (List.mem_append_right _ (List.mem_append_right _ (List.mem_append_right _ (List.mem_append_right _ (List.mem_append_right _ (List.mem_append_right _ (List.mem_append_right _ (List.mem_append_left _ h))))))))))))))))))))))))))))))))))))))))))))))
theorem kr_34 : ∀ w ∈ wsL_law_r34, w ∈ wsL_law := fun _ h => (List.mem_append_left _ (List.mem_append_left _ (List.mem_append_left _ (List.mem_append_left _ (List.mem_append_left _ (List.mem_append_left _ (List.mem_append_left _ (List.mem_append_left _ (List.mem_append_left _ (List.mem_append_left _ (List.mem_append_left _ (List.mem_append_left _ (List.mem_append_left _ (List.mem_append_right _ (List.mem_append_right _ (List.mem_append_right _ (List.mem_append_right _ (List.mem_append_right _ (List.mem_append_right _ (List.mem_append_right _ (List.mem_append_right _ (List.mem_append_right _ (List.mem_append_right _ (List.mem_append_right _ (List.mem_append_right _ (List.mem_append_right _ (List.mem_append_right _ (List.mem_append_right _ (List.mem_append_right _ (List.mem_append_right _ (List.mem_append_right _ (List.mem_append_right _ (List.mem_append_right _ (List.mem_append_right _ (List.mem_append_right _ (List.mem_append_right _ (List.mem_append_right _ (List.mem_append_right _ (List.mem_append_right _ (List.mem_append_right _ (List.mem_append_right _ (List.mem_append_right _ (List.mem_append_right _ (List.mem_append_right _ (List.mem_append_right _ (List.mem_append_right _ (List.mem_append_left _ h)))))))))))))))))))))))))))))))))))))))))))))))
theorem kr_35 : ∀ w ∈ wsL_law_r35, w ∈ wsL_law := fun _ h => (List.mem_append_left _ (List.mem_append_left _ (List.mem_append_left _ (List.mem_append_left _ (List.mem_append_left _ (List.mem_append_left _ (List.mem_append_left _ (List.mem_append_left _ (List.mem_append_left _ (List.mem_append_left _ (List.mem_append_left _ (List.mem_append_left _ (List.mem_append_left _ (List.mem_append_right _ (List.mem_append_right _ (List.mem_append_right _ (List.mem_append_right _ (List.mem_append_right _ (List.mem_append_right _ (List.mem_append_right _ (List.mem_append_right _ (List.mem_append_right _ (List.mem_append_right _ (List.mem_append_right _ (List.mem_append_right _ (List.mem_append_right _ (List.mem_append_right _ (List.mem_append_right _ (List.mem_append_right _ (List.mem_append_right _ (List.mem_append_right _ (List.mem_append_right _ (List.mem_append_right _ (List.mem_append_right _ (List.mem_append_right _ (List.mem_append_right _ (List.mem_append_right _ (List.mem_append_right _ (List.mem_append_right _ (List.mem_append_right _ (List.mem_append_right _ (List.mem_append_right _ (List.mem_append_right _ (List.mem_append_right _ (List.mem_append_right _ (List.mem_append_right _ (List.mem_append_right _ (List.mem_append_left _ h))))))))))))))))))))))))))))))))))))))))))))))))
theorem kr_36 : ∀ w ∈ wsL_law_r36, w ∈ wsL_law := fun _ h => (List.mem_append_left _ (List.mem_append_left _ (List.mem_append_left _ (List.mem_append_left _ (List.mem_append_left _ (List.mem_append_left _ (List.mem_append_left _ (List.mem_append_left _ (List.mem_append_left _ (List.mem_append_left _ (List.mem_append_left _ (List.mem_append_left _ (List.mem_append_left _ (List.mem_append_right _ (List.mem_append_right _ (List.mem_append_right _ (List.mem_append_right _ (List.mem_append_right _ (List.mem_append_right _ (List.mem_append_right _ (List.mem_append_right _ (List.mem_append_right _ (List.mem_append_right _ (List.mem_append_right _ (List.mem_append_right _ (List.mem_append_right _ (List.mem_append_right _ (List.mem_append_right _ (List.mem_append_right _ (List.mem_append_right _ (List.mem_append_right _ (List.mem_append_right _ (List.mem_append_right _ (List.mem_append_right _ (List.mem_append_right _ (List.mem_append_right _ (List.mem_append_right _ (List.mem_append_right _ (List.mem_append_right _ (List.mem_append_right _ (List.mem_append_right _ (List.mem_append_right _ (List.mem_append_right _ (List.mem_append_right _ (List.mem_append_right _ (List.mem_append_right _ (List.mem_append_right _ (List.mem_append_right _ (List.mem_append_left _ h)))))))))))))))))))))))))))))))))))))))))))))))))
theorem kr_37 : ∀ w ∈ wsL_law_r37, w ∈ wsL_law := fun _ h => (List.mem_append_left _ (List.mem_append_left _ (List.mem_append_left _ (List.mem_append_left _ (List.mem_append_left _ (List.mem_append_left _ (List.mem_append_left _ (List.mem_append_left _ (List.mem_append_left _ (List.mem_append_left _ (List.mem_append_left _ (List.mem_append_left _ (List.mem_append_left _ (List.mem_append_right _ (List.mem_append_right _ (List.mem_append_right _ (List.mem_append_right _ (List.mem_append_right _ (List.mem_append_right _ (List.mem_append_right _ (List.mem_append_right _ (List.mem_append_right _ (List.mem_append_right _ (List.mem_append_right _ (List.mem_append_right _ (List.mem_append_right _ (List.mem_append_right _ (List.mem_append_right _ (List.mem_append_right _ (List.mem_append_right _ (List.mem_append_right _ (List.mem_append_right _ (List.mem_append_right _ (List.mem_append_right _ (List.mem_append_right _ (List.mem_append_right _ (List.mem_append_right _ (List.mem_append_right _ (List.mem_append_right _ (List.mem_append_right _ (List.mem_append_right _ (List.mem_append_right _ (List.mem_append_right _ (List.mem_append_right _ (List.mem_append_right _ (List.mem_append_right _ (List.mem_append_right _ (List.mem_append_right _ (List.mem_append_right _ (List.mem_append_left _ h))))))))))))))))))))))))))))))))))))))))))))))))))
theorem kr_38 : ∀ w ∈ wsL_law_r38, w ∈ wsL_law := fun _ h => (List.mem_append_left _ (List.mem_append_left _ (List.mem_append_left _ (List.mem_append_left _ (List.mem_append_left _ (List.mem_append_left _ (List.mem_append_left _ (List.mem_append_left _ (List.mem_append_left _ (List.mem_append_left _ (List.mem_append_left _ (List.mem_append_left _ (List.mem_append_left _ (List.mem_append_right _ (List.mem_append_right _ (List.mem_append_right _ (List.mem_append_right _ (List.mem_append_right _ (List.mem_append_right _ (List.mem_append_right _ (List.mem_append_right _ (List.mem_append_right _ (List.mem_append_right _ (List.mem_append_right _ (List.mem_append_right _ (List.mem_append_right _ (List.mem_append_right _ (List.mem_append_right _ (List.mem_append_right _ (List.mem_append_right _ (List.mem_append_right _ (List.mem_append_right _ (List.mem_append_right _ (List.mem_append_right _ (List.mem_append_right _ (List.mem_append_right _ (List.mem_append_right _ (List.mem_append_right _ (List.mem_append_right _ (List.mem_append_right _ (List.mem_append_right _ (List.mem_append_right _ (List.mem_append_right _ (List.mem_append_right _ (List.mem_append_right _ (List.mem_append_right _ (List.mem_append_right _ (List.mem_append_right _ (List.mem_append_right _ (List.mem_append_right _ (List.mem_append_left _ h)))))))))))))))))))))))))))))))))))))))))))))))))))
theorem kr_39 : ∀ w ∈ wsL_law_r39, w ∈ wsL_law := fun _ h => (List.mem_append_left _ (List.mem_append_left _ (List.mem_append_left _ (List.mem_append_left _ (List.mem_append_left _ (List.mem_append_left _ (List.mem_append_left _ (List.mem_append_left _ (List.mem_append_left _ (List.mem_append_left _ (List.mem_append_left _ (List.mem_append_left _ (List.mem_append_left _ (List.mem_append_right _ (List.mem_append_right _ (List.mem_append_right _ (List.mem_append_right _ (List.mem_append_right _ (List.mem_append_right _ (List.mem_append_right _ (List.mem_append_right _ (List.mem_append_right _ (List.mem_append_right _ (List.mem_append_right _ (List.mem_append_right _ (List.mem_append_right _ (List.mem_append_right _ (List.mem_append_right _ (List.mem_append_right _ (List.mem_append_right _ (List.mem_append_right _ (List.mem_append_right _ (List.mem_append_right _ (List.mem_append_right _ (List.mem_append_right _ (List.mem_append_right _ (List.mem_append_right _ (List.mem_append_right _ (List.mem_append_right _ (List.mem_append_right _ (List.mem_append_right _ (List.mem_append_right _ (List.mem_append_right _ (List.mem_append_right _ (List.mem_append_right _ (List.mem_append_right _ (List.mem_append_right _ (List.mem_append_right _ (List.mem_append_right _ (List.mem_append_right _ (List.mem_append_right _ h)))))))))))))))))))))))))))))))))))))))))))))))))))
theorem kw_1_0 : (Cond.classLink RL 7 RX10) ∈ wsL_law := kr_1 _ (List.mem_of_getElem? (i := 0) rfl)
theorem kw_1_1 : (Cond.instantiable RX10 4) ∈ wsL_law := kr_1 _ (List.mem_of_getElem? (i := 1) rfl)
theorem kw_1_2 : (Cond.initialized RX10) ∈ wsL_law := kr_1 _ (List.mem_of_getElem? (i := 2) rfl)
theorem kw_1_3 : (Cond.classLink RL 10 RX11) ∈ wsL_law := kr_1 _ (List.mem_of_getElem? (i := 3) rfl)
theorem kw_1_4 : (Cond.instantiable RX11 11) ∈ wsL_law := kr_1 _ (List.mem_of_getElem? (i := 4) rfl)
theorem kw_1_5 : (Cond.initialized RX11) ∈ wsL_law := kr_1 _ (List.mem_of_getElem? (i := 5) rfl)
theorem kw_1_6 : (Cond.methodLink RL 9 yX10_init) ∈ wsL_law := kr_1 _ (List.mem_of_getElem? (i := 6) rfl)
theorem kw_1_7 : (Cond.instanceMethod yX10_init) ∈ wsL_law := kr_1 _ (List.mem_of_getElem? (i := 7) rfl)
theorem kw_1_8 : (Cond.code yX10_init cX10_init 1 none) ∈ wsL_law := kr_1 _ (List.mem_of_getElem? (i := 8) rfl)
theorem kw_1_9 : (Cond.methodLink RX10 1 objectInit) ∈ wsL_law := kr_1 _ (List.mem_of_getElem? (i := 9) rfl)
theorem kw_1_10 : (Cond.instanceMethod objectInit) ∈ wsL_law := kr_1 _ (List.mem_of_getElem? (i := 10) rfl)
theorem kw_1_11 : (Cond.code objectInit ⟨#[0xb1]⟩ 1 none) ∈ wsL_law := kr_1 _ (List.mem_of_getElem? (i := 11) rfl)
theorem kw_1_12 : (Cond.classLink RX10 7 RX1) ∈ wsL_law := kr_1 _ (List.mem_of_getElem? (i := 12) rfl)
theorem kw_1_13 : (Cond.instantiable RX1 6) ∈ wsL_law := kr_1 _ (List.mem_of_getElem? (i := 13) rfl)
theorem kw_1_14 : (Cond.initialized RX1) ∈ wsL_law := kr_1 _ (List.mem_of_getElem? (i := 14) rfl)
theorem kw_1_15 : (Cond.fieldLink RX10 10 "PageRotas" "house" "LPageRotas$House;") ∈ wsL_law := kr_1 _ (List.mem_of_getElem? (i := 15) rfl)
theorem kw_1_16 : (Cond.fieldLink RX10 16 "PageRotas" "trial" "LPageRotas$House;") ∈ wsL_law := kr_1 _ (List.mem_of_getElem? (i := 16) rfl)
theorem kw_1_17 : (Cond.classLink RX10 19 RX0) ∈ wsL_law := kr_1 _ (List.mem_of_getElem? (i := 17) rfl)
theorem kw_1_18 : (Cond.instantiable RX0 2) ∈ wsL_law := kr_1 _ (List.mem_of_getElem? (i := 18) rfl)
theorem kw_1_19 : (Cond.initialized RX0) ∈ wsL_law := kr_1 _ (List.mem_of_getElem? (i := 19) rfl)
theorem kw_1_20 : (Cond.fieldLink RX10 22 "PageRotas" "history" "LPageRotas$History;") ∈ wsL_law := kr_1 _ (List.mem_of_getElem? (i := 20) rfl)
theorem kw_1_21 : (Cond.classLink RX10 26 RX6) ∈ wsL_law := kr_1 _ (List.mem_of_getElem? (i := 21) rfl)
theorem kw_1_22 : (Cond.instantiable RX6 7) ∈ wsL_law := kr_1 _ (List.mem_of_getElem? (i := 22) rfl)
theorem kw_1_23 : (Cond.initialized RX6) ∈ wsL_law := kr_1 _ (List.mem_of_getElem? (i := 23) rfl)
theorem kw_2_0 : (Cond.fieldLink RX10 29 "PageRotas" "script" "LPageRotas$Script;") ∈ wsL_law := kr_2 _ (List.mem_of_getElem? (i := 0) rfl)
theorem kw_2_1 : (Cond.methodLink RX10 9 yX1_init) ∈ wsL_law := kr_2 _ (List.mem_of_getElem? (i := 1) rfl)
theorem kw_2_2 : (Cond.instanceMethod yX1_init) ∈ wsL_law := kr_2 _ (List.mem_of_getElem? (i := 2) rfl)
theorem kw_2_3 : (Cond.code yX1_init cX1_init 2 none) ∈ wsL_law := kr_2 _ (List.mem_of_getElem? (i := 3) rfl)
theorem kw_2_4 : (Cond.methodLink RX1 3 objectInit) ∈ wsL_law := kr_2 _ (List.mem_of_getElem? (i := 4) rfl)
theorem kw_2_5 : (Cond.classLink RX1 9 RX5) ∈ wsL_law := kr_2 _ (List.mem_of_getElem? (i := 5) rfl)
theorem kw_2_6 : (Cond.instantiable RX5 6) ∈ wsL_law := kr_2 _ (List.mem_of_getElem? (i := 6) rfl)
theorem kw_2_7 : (Cond.initialized RX5) ∈ wsL_law := kr_2 _ (List.mem_of_getElem? (i := 7) rfl)
theorem kw_2_8 : (Cond.fieldLink RX1 12 "PageRotas$House" "rotas" "LPageRotas$Rotas;") ∈ wsL_law := kr_2 _ (List.mem_of_getElem? (i := 8) rfl)
theorem kw_2_9 : (Cond.classLink RX1 18 RX2) ∈ wsL_law := kr_2 _ (List.mem_of_getElem? (i := 9) rfl)
theorem kw_2_10 : (Cond.fieldLink RX1 20 "PageRotas$House" "incidents" "[LPageRotas$Incident;") ∈ wsL_law := kr_2 _ (List.mem_of_getElem? (i := 10) rfl)
theorem kw_2_11 : (Cond.classLink RX1 24 RX9) ∈ wsL_law := kr_2 _ (List.mem_of_getElem? (i := 11) rfl)
theorem kw_2_12 : (Cond.instantiable RX9 10) ∈ wsL_law := kr_2 _ (List.mem_of_getElem? (i := 12) rfl)
theorem kw_2_13 : (Cond.initialized RX9) ∈ wsL_law := kr_2 _ (List.mem_of_getElem? (i := 13) rfl)
theorem kw_2_14 : (Cond.fieldLink RX1 27 "PageRotas$House" "totals" "LPageRotas$Totals;") ∈ wsL_law := kr_2 _ (List.mem_of_getElem? (i := 14) rfl)
theorem kw_2_15 : (Cond.fieldLink RX1 31 "PageRotas$House" "escalateAfter" "I") ∈ wsL_law := kr_2 _ (List.mem_of_getElem? (i := 15) rfl)
theorem kw_2_16 : (Cond.fieldLink RX1 35 "PageRotas$House" "foldWithin" "I") ∈ wsL_law := kr_2 _ (List.mem_of_getElem? (i := 16) rfl)
theorem kw_2_17 : (Cond.instantiable RX2 14) ∈ wsL_law := kr_2 _ (List.mem_of_getElem? (i := 17) rfl)
theorem kw_2_18 : (Cond.initialized RX2) ∈ wsL_law := kr_2 _ (List.mem_of_getElem? (i := 18) rfl)
theorem kw_2_19 : (Cond.methodLink RX1 11 yX5_init) ∈ wsL_law := kr_2 _ (List.mem_of_getElem? (i := 19) rfl)
theorem kw_2_20 : (Cond.instanceMethod yX5_init) ∈ wsL_law := kr_2 _ (List.mem_of_getElem? (i := 20) rfl)
theorem kw_2_21 : (Cond.code yX5_init cX5_init 2 none) ∈ wsL_law := kr_2 _ (List.mem_of_getElem? (i := 21) rfl)
theorem kw_2_22 : (Cond.methodLink RX5 3 objectInit) ∈ wsL_law := kr_2 _ (List.mem_of_getElem? (i := 22) rfl)
theorem kw_2_23 : (Cond.classLink RX5 9 RX3) ∈ wsL_law := kr_2 _ (List.mem_of_getElem? (i := 23) rfl)
theorem kw_3_0 : (Cond.fieldLink RX5 11 "PageRotas$Rotas" "people" "[LPageRotas$Person;") ∈ wsL_law := kr_3 _ (List.mem_of_getElem? (i := 0) rfl)
theorem kw_3_1 : (Cond.classLink RX5 17 RX4) ∈ wsL_law := kr_3 _ (List.mem_of_getElem? (i := 1) rfl)
theorem kw_3_2 : (Cond.fieldLink RX5 19 "PageRotas$Rotas" "regions" "[LPageRotas$Region;") ∈ wsL_law := kr_3 _ (List.mem_of_getElem? (i := 2) rfl)
theorem kw_3_3 : (Cond.classLink RX5 23 RX8) ∈ wsL_law := kr_3 _ (List.mem_of_getElem? (i := 3) rfl)
theorem kw_3_4 : (Cond.fieldLink RX5 25 "PageRotas$Rotas" "standIns" "[LPageRotas$StandIn;") ∈ wsL_law := kr_3 _ (List.mem_of_getElem? (i := 4) rfl)
theorem kw_3_5 : (Cond.instantiable RX3 4) ∈ wsL_law := kr_3 _ (List.mem_of_getElem? (i := 5) rfl)
theorem kw_3_6 : (Cond.initialized RX3) ∈ wsL_law := kr_3 _ (List.mem_of_getElem? (i := 6) rfl)
theorem kw_3_7 : (Cond.instantiable RX4 4) ∈ wsL_law := kr_3 _ (List.mem_of_getElem? (i := 7) rfl)
theorem kw_3_8 : (Cond.initialized RX4) ∈ wsL_law := kr_3 _ (List.mem_of_getElem? (i := 8) rfl)
theorem kw_3_9 : (Cond.instantiable RX8 3) ∈ wsL_law := kr_3 _ (List.mem_of_getElem? (i := 9) rfl)
theorem kw_3_10 : (Cond.initialized RX8) ∈ wsL_law := kr_3 _ (List.mem_of_getElem? (i := 10) rfl)
theorem kw_3_11 : (Cond.instanceMethod yX3_init) ∈ wsL_law := kr_3 _ (List.mem_of_getElem? (i := 11) rfl)
theorem kw_3_12 : (Cond.code yX3_init cX3_init 1 none) ∈ wsL_law := kr_3 _ (List.mem_of_getElem? (i := 12) rfl)
theorem kw_3_13 : (Cond.methodLink RX3 1 objectInit) ∈ wsL_law := kr_3 _ (List.mem_of_getElem? (i := 13) rfl)
theorem kw_3_14 : (Cond.classLink RX3 7 RX7) ∈ wsL_law := kr_3 _ (List.mem_of_getElem? (i := 14) rfl)
theorem kw_3_15 : (Cond.instantiable RX7 2) ∈ wsL_law := kr_3 _ (List.mem_of_getElem? (i := 15) rfl)
theorem kw_3_16 : (Cond.initialized RX7) ∈ wsL_law := kr_3 _ (List.mem_of_getElem? (i := 16) rfl)
theorem kw_3_17 : (Cond.fieldLink RX3 10 "PageRotas$Person" "quiet" "LPageRotas$Span;") ∈ wsL_law := kr_3 _ (List.mem_of_getElem? (i := 17) rfl)
theorem kw_3_18 : (Cond.instanceMethod yX7_init) ∈ wsL_law := kr_3 _ (List.mem_of_getElem? (i := 18) rfl)
theorem kw_3_19 : (Cond.code yX7_init cX7_init 1 none) ∈ wsL_law := kr_3 _ (List.mem_of_getElem? (i := 19) rfl)
theorem kw_3_20 : (Cond.methodLink RX7 3 objectInit) ∈ wsL_law := kr_3 _ (List.mem_of_getElem? (i := 20) rfl)
theorem kw_3_21 : (Cond.instanceMethod yX4_init) ∈ wsL_law := kr_3 _ (List.mem_of_getElem? (i := 21) rfl)
theorem kw_3_22 : (Cond.code yX4_init cX4_init 1 none) ∈ wsL_law := kr_3 _ (List.mem_of_getElem? (i := 22) rfl)
theorem kw_3_23 : (Cond.methodLink RX4 3 objectInit) ∈ wsL_law := kr_3 _ (List.mem_of_getElem? (i := 23) rfl)
theorem kw_4_0 : (Cond.classLink RX4 9 RX7) ∈ wsL_law := kr_4 _ (List.mem_of_getElem? (i := 0) rfl)
theorem kw_4_1 : (Cond.fieldLink RX4 12 "PageRotas$Region" "hours" "LPageRotas$Span;") ∈ wsL_law := kr_4 _ (List.mem_of_getElem? (i := 1) rfl)
theorem kw_4_2 : (Cond.arrayClass .int) ∈ wsL_law := kr_4 _ (List.mem_of_getElem? (i := 2) rfl)
theorem kw_4_3 : (Cond.fieldLink RX4 18 "PageRotas$Region" "rota" "[I") ∈ wsL_law := kr_4 _ (List.mem_of_getElem? (i := 3) rfl)
theorem kw_4_4 : (Cond.instanceMethod yX8_init) ∈ wsL_law := kr_4 _ (List.mem_of_getElem? (i := 4) rfl)
theorem kw_4_5 : (Cond.code yX8_init cX8_init 1 none) ∈ wsL_law := kr_4 _ (List.mem_of_getElem? (i := 5) rfl)
theorem kw_4_6 : (Cond.methodLink RX8 1 objectInit) ∈ wsL_law := kr_4 _ (List.mem_of_getElem? (i := 6) rfl)
theorem kw_4_7 : (Cond.instanceMethod yX9_init) ∈ wsL_law := kr_4 _ (List.mem_of_getElem? (i := 7) rfl)
theorem kw_4_8 : (Cond.code yX9_init cX9_init 1 none) ∈ wsL_law := kr_4 _ (List.mem_of_getElem? (i := 8) rfl)
theorem kw_4_9 : (Cond.methodLink RX9 3 objectInit) ∈ wsL_law := kr_4 _ (List.mem_of_getElem? (i := 9) rfl)
theorem kw_4_10 : (Cond.instanceMethod yX2_init) ∈ wsL_law := kr_4 _ (List.mem_of_getElem? (i := 10) rfl)
theorem kw_4_11 : (Cond.code yX2_init cX2_init 1 none) ∈ wsL_law := kr_4 _ (List.mem_of_getElem? (i := 11) rfl)
theorem kw_4_12 : (Cond.methodLink RX2 3 objectInit) ∈ wsL_law := kr_4 _ (List.mem_of_getElem? (i := 12) rfl)
theorem kw_4_13 : (Cond.methodLink RX10 21 yX0_init) ∈ wsL_law := kr_4 _ (List.mem_of_getElem? (i := 13) rfl)
theorem kw_4_14 : (Cond.instanceMethod yX0_init) ∈ wsL_law := kr_4 _ (List.mem_of_getElem? (i := 14) rfl)
theorem kw_4_15 : (Cond.code yX0_init cX0_init 2 none) ∈ wsL_law := kr_4 _ (List.mem_of_getElem? (i := 15) rfl)
theorem kw_4_16 : (Cond.methodLink RX0 3 objectInit) ∈ wsL_law := kr_4 _ (List.mem_of_getElem? (i := 16) rfl)
theorem kw_4_17 : (Cond.classLink RX0 9 RX1) ∈ wsL_law := kr_4 _ (List.mem_of_getElem? (i := 17) rfl)
theorem kw_4_18 : (Cond.fieldLink RX0 11 "PageRotas$History" "states" "[LPageRotas$House;") ∈ wsL_law := kr_4 _ (List.mem_of_getElem? (i := 18) rfl)
theorem kw_4_19 : (Cond.methodLink RX0 17 yX1_init) ∈ wsL_law := kr_4 _ (List.mem_of_getElem? (i := 19) rfl)
theorem kw_4_20 : (Cond.instanceMethod yX6_init) ∈ wsL_law := kr_4 _ (List.mem_of_getElem? (i := 20) rfl)
theorem kw_4_21 : (Cond.code yX6_init cX6_init 1 none) ∈ wsL_law := kr_4 _ (List.mem_of_getElem? (i := 21) rfl)
theorem kw_4_22 : (Cond.methodLink RX6 3 objectInit) ∈ wsL_law := kr_4 _ (List.mem_of_getElem? (i := 22) rfl)
theorem kw_4_23 : (Cond.arrayClass .char) ∈ wsL_law := kr_4 _ (List.mem_of_getElem? (i := 23) rfl)
theorem kw_5_0 : (Cond.fieldLink RX6 9 "PageRotas$Script" "signs" "[C") ∈ wsL_law := kr_5 _ (List.mem_of_getElem? (i := 0) rfl)
theorem kw_5_1 : (Cond.fieldLink RX6 15 "PageRotas$Script" "numbers" "[I") ∈ wsL_law := kr_5 _ (List.mem_of_getElem? (i := 1) rfl)
theorem kw_5_2 : (Cond.fieldLink RX6 19 "PageRotas$Script" "faultReason" "I") ∈ wsL_law := kr_5 _ (List.mem_of_getElem? (i := 2) rfl)
theorem kw_5_3 : (Cond.methodLink RL 12 yX11_init) ∈ wsL_law := kr_5 _ (List.mem_of_getElem? (i := 3) rfl)
theorem kw_5_4 : (Cond.instanceMethod yX11_init) ∈ wsL_law := kr_5 _ (List.mem_of_getElem? (i := 4) rfl)
theorem kw_5_5 : (Cond.code yX11_init cX11_init 1 none) ∈ wsL_law := kr_5 _ (List.mem_of_getElem? (i := 5) rfl)
theorem kw_5_6 : (Cond.methodLink RX11 1 objectInit) ∈ wsL_law := kr_5 _ (List.mem_of_getElem? (i := 6) rfl)
theorem kw_5_7 : (Cond.fieldLink RX11 7 "PageRotasModel" "s" "[I") ∈ wsL_law := kr_5 _ (List.mem_of_getElem? (i := 7) rfl)
theorem kw_5_8 : (Cond.fieldLink RX11 13 "PageRotasModel" "begun" "[I") ∈ wsL_law := kr_5 _ (List.mem_of_getElem? (i := 8) rfl)
theorem kw_5_9 : (Cond.fieldLink RX11 16 "PageRotasModel" "aside" "[I") ∈ wsL_law := kr_5 _ (List.mem_of_getElem? (i := 9) rfl)
theorem kw_5_10 : (Cond.fieldLink RX11 19 "PageRotasModel" "past" "[I") ∈ wsL_law := kr_5 _ (List.mem_of_getElem? (i := 10) rfl)
theorem kw_5_11 : (Cond.fieldLink RX11 22 "PageRotasModel" "text" "[I") ∈ wsL_law := kr_5 _ (List.mem_of_getElem? (i := 11) rfl)
theorem kw_5_12 : (Cond.fieldLink RX11 25 "PageRotasModel" "numbers" "[I") ∈ wsL_law := kr_5 _ (List.mem_of_getElem? (i := 12) rfl)
theorem kw_5_13 : (Cond.methodLink RL 13 yX10_person) ∈ wsL_law := kr_5 _ (List.mem_of_getElem? (i := 13) rfl)
theorem kw_5_14 : (Cond.instanceMethod yX10_person) ∈ wsL_law := kr_5 _ (List.mem_of_getElem? (i := 14) rfl)
theorem kw_5_15 : (Cond.selects RX10 yX10_person yX10_person) ∈ wsL_law := kr_5 _ (List.mem_of_getElem? (i := 15) rfl)
theorem kw_5_16 : (Cond.code yX10_person cX10_person 1 (some .int)) ∈ wsL_law := kr_5 _ (List.mem_of_getElem? (i := 16) rfl)
theorem kw_5_17 : (Cond.fieldLink RX10 37 "PageRotas$House" "rotas" "LPageRotas$Rotas;") ∈ wsL_law := kr_5 _ (List.mem_of_getElem? (i := 17) rfl)
theorem kw_5_18 : (Cond.methodLink RX10 33 yX0_prepare) ∈ wsL_law := kr_5 _ (List.mem_of_getElem? (i := 18) rfl)
theorem kw_5_19 : (Cond.instanceMethod yX0_prepare) ∈ wsL_law := kr_5 _ (List.mem_of_getElem? (i := 19) rfl)
theorem kw_5_20 : (Cond.selects RX0 yX0_prepare yX0_prepare) ∈ wsL_law := kr_5 _ (List.mem_of_getElem? (i := 20) rfl)
theorem kw_5_21 : (Cond.code yX0_prepare cX0_prepare 2 none) ∈ wsL_law := kr_5 _ (List.mem_of_getElem? (i := 21) rfl)
theorem kw_5_22 : (Cond.fieldLink RX0 18 "PageRotas$History" "size" "I") ∈ wsL_law := kr_5 _ (List.mem_of_getElem? (i := 22) rfl)
theorem kw_5_23 : (Cond.methodLink RX0 22 yX1_copyFrom) ∈ wsL_law := kr_5 _ (List.mem_of_getElem? (i := 23) rfl)
theorem kw_6_0 : (Cond.instanceMethod yX1_copyFrom) ∈ wsL_law := kr_6 _ (List.mem_of_getElem? (i := 0) rfl)
theorem kw_6_1 : (Cond.selects RX1 yX1_copyFrom yX1_copyFrom) ∈ wsL_law := kr_6 _ (List.mem_of_getElem? (i := 1) rfl)
theorem kw_6_2 : (Cond.code yX1_copyFrom cX1_copyFrom 3 none) ∈ wsL_law := kr_6 _ (List.mem_of_getElem? (i := 2) rfl)
theorem kw_6_3 : (Cond.fieldLink RX1 49 "PageRotas$House" "time" "I") ∈ wsL_law := kr_6 _ (List.mem_of_getElem? (i := 3) rfl)
theorem kw_6_4 : (Cond.methodLink RX1 39 yX5_copyFrom) ∈ wsL_law := kr_6 _ (List.mem_of_getElem? (i := 4) rfl)
theorem kw_6_5 : (Cond.instanceMethod yX5_copyFrom) ∈ wsL_law := kr_6 _ (List.mem_of_getElem? (i := 5) rfl)
theorem kw_6_6 : (Cond.selects RX5 yX5_copyFrom yX5_copyFrom) ∈ wsL_law := kr_6 _ (List.mem_of_getElem? (i := 6) rfl)
theorem kw_6_7 : (Cond.code yX5_copyFrom cX5_copyFrom 3 none) ∈ wsL_law := kr_6 _ (List.mem_of_getElem? (i := 7) rfl)
theorem kw_6_8 : (Cond.fieldLink RX5 42 "PageRotas$Rotas" "peopleCount" "I") ∈ wsL_law := kr_6 _ (List.mem_of_getElem? (i := 8) rfl)
theorem kw_6_9 : (Cond.fieldLink RX5 46 "PageRotas$Rotas" "regionCount" "I") ∈ wsL_law := kr_6 _ (List.mem_of_getElem? (i := 9) rfl)
theorem kw_6_10 : (Cond.fieldLink RX5 49 "PageRotas$Rotas" "standInCount" "I") ∈ wsL_law := kr_6 _ (List.mem_of_getElem? (i := 10) rfl)
theorem kw_6_11 : (Cond.methodLink RX5 32 yX3_copyFrom) ∈ wsL_law := kr_6 _ (List.mem_of_getElem? (i := 11) rfl)
theorem kw_6_12 : (Cond.instanceMethod yX3_copyFrom) ∈ wsL_law := kr_6 _ (List.mem_of_getElem? (i := 12) rfl)
theorem kw_6_13 : (Cond.selects RX3 yX3_copyFrom yX3_copyFrom) ∈ wsL_law := kr_6 _ (List.mem_of_getElem? (i := 13) rfl)
theorem kw_6_14 : (Cond.code yX3_copyFrom cX3_copyFrom 2 none) ∈ wsL_law := kr_6 _ (List.mem_of_getElem? (i := 14) rfl)
theorem kw_6_15 : (Cond.fieldLink RX3 16 "PageRotas$Span" "from" "I") ∈ wsL_law := kr_6 _ (List.mem_of_getElem? (i := 15) rfl)
theorem kw_6_16 : (Cond.fieldLink RX3 20 "PageRotas$Span" "to" "I") ∈ wsL_law := kr_6 _ (List.mem_of_getElem? (i := 16) rfl)
theorem kw_6_17 : (Cond.fieldLink RX3 27 "PageRotas$Person" "exceptions" "I") ∈ wsL_law := kr_6 _ (List.mem_of_getElem? (i := 17) rfl)
theorem kw_6_18 : (Cond.fieldLink RX3 30 "PageRotas$Person" "pages" "I") ∈ wsL_law := kr_6 _ (List.mem_of_getElem? (i := 18) rfl)
theorem kw_6_19 : (Cond.fieldLink RX3 33 "PageRotas$Person" "resolved" "I") ∈ wsL_law := kr_6 _ (List.mem_of_getElem? (i := 19) rfl)
theorem kw_6_20 : (Cond.methodLink RX3 23 yX7_put) ∈ wsL_law := kr_6 _ (List.mem_of_getElem? (i := 20) rfl)
theorem kw_6_21 : (Cond.instanceMethod yX7_put) ∈ wsL_law := kr_6 _ (List.mem_of_getElem? (i := 21) rfl)
theorem kw_6_22 : (Cond.selects RX7 yX7_put yX7_put) ∈ wsL_law := kr_6 _ (List.mem_of_getElem? (i := 22) rfl)
theorem kw_6_23 : (Cond.code yX7_put cX7_put 3 none) ∈ wsL_law := kr_6 _ (List.mem_of_getElem? (i := 23) rfl)
theorem kw_7_0 : (Cond.fieldLink RX7 9 "PageRotas$Span" "from" "I") ∈ wsL_law := kr_7 _ (List.mem_of_getElem? (i := 0) rfl)
theorem kw_7_1 : (Cond.fieldLink RX7 15 "PageRotas$Span" "to" "I") ∈ wsL_law := kr_7 _ (List.mem_of_getElem? (i := 1) rfl)
theorem kw_7_2 : (Cond.methodLink RX5 36 yX4_copyFrom) ∈ wsL_law := kr_7 _ (List.mem_of_getElem? (i := 2) rfl)
theorem kw_7_3 : (Cond.instanceMethod yX4_copyFrom) ∈ wsL_law := kr_7 _ (List.mem_of_getElem? (i := 3) rfl)
theorem kw_7_4 : (Cond.selects RX4 yX4_copyFrom yX4_copyFrom) ∈ wsL_law := kr_7 _ (List.mem_of_getElem? (i := 4) rfl)
theorem kw_7_5 : (Cond.code yX4_copyFrom cX4_copyFrom 2 none) ∈ wsL_law := kr_7 _ (List.mem_of_getElem? (i := 5) rfl)
theorem kw_7_6 : (Cond.fieldLink RX4 22 "PageRotas$Span" "from" "I") ∈ wsL_law := kr_7 _ (List.mem_of_getElem? (i := 6) rfl)
theorem kw_7_7 : (Cond.fieldLink RX4 26 "PageRotas$Span" "to" "I") ∈ wsL_law := kr_7 _ (List.mem_of_getElem? (i := 7) rfl)
theorem kw_7_8 : (Cond.methodLink RX4 33 arraycopyName) ∈ wsL_law := kr_7 _ (List.mem_of_getElem? (i := 8) rfl)
theorem kw_7_9 : (Cond.native arraycopyName) ∈ wsL_law := kr_7 _ (List.mem_of_getElem? (i := 9) rfl)
theorem kw_7_10 : (Cond.static arraycopyName) ∈ wsL_law := kr_7 _ (List.mem_of_getElem? (i := 10) rfl)
theorem kw_7_11 : (Cond.initialized "java/lang/System") ∈ wsL_law := kr_7 _ (List.mem_of_getElem? (i := 11) rfl)
theorem kw_7_12 : (Cond.fieldLink RX4 39 "PageRotas$Region" "shift" "I") ∈ wsL_law := kr_7 _ (List.mem_of_getElem? (i := 12) rfl)
theorem kw_7_13 : (Cond.fieldLink RX4 42 "PageRotas$Region" "size" "I") ∈ wsL_law := kr_7 _ (List.mem_of_getElem? (i := 13) rfl)
theorem kw_7_14 : (Cond.methodLink RX4 29 yX7_put) ∈ wsL_law := kr_7 _ (List.mem_of_getElem? (i := 14) rfl)
theorem kw_7_15 : (Cond.methodLink RX5 39 yX8_copyFrom) ∈ wsL_law := kr_7 _ (List.mem_of_getElem? (i := 15) rfl)
theorem kw_7_16 : (Cond.instanceMethod yX8_copyFrom) ∈ wsL_law := kr_7 _ (List.mem_of_getElem? (i := 16) rfl)
theorem kw_7_17 : (Cond.selects RX8 yX8_copyFrom yX8_copyFrom) ∈ wsL_law := kr_7 _ (List.mem_of_getElem? (i := 17) rfl)
theorem kw_7_18 : (Cond.code yX8_copyFrom cX8_copyFrom 2 none) ∈ wsL_law := kr_7 _ (List.mem_of_getElem? (i := 18) rfl)
theorem kw_7_19 : (Cond.fieldLink RX8 7 "PageRotas$StandIn" "region" "I") ∈ wsL_law := kr_7 _ (List.mem_of_getElem? (i := 19) rfl)
theorem kw_7_20 : (Cond.fieldLink RX8 13 "PageRotas$StandIn" "person" "I") ∈ wsL_law := kr_7 _ (List.mem_of_getElem? (i := 20) rfl)
theorem kw_7_21 : (Cond.fieldLink RX8 16 "PageRotas$StandIn" "end" "I") ∈ wsL_law := kr_7 _ (List.mem_of_getElem? (i := 21) rfl)
theorem kw_7_22 : (Cond.methodLink RX1 43 yX2_copyFrom) ∈ wsL_law := kr_7 _ (List.mem_of_getElem? (i := 22) rfl)
theorem kw_7_23 : (Cond.instanceMethod yX2_copyFrom) ∈ wsL_law := kr_7 _ (List.mem_of_getElem? (i := 23) rfl)
theorem kw_8_0 : (Cond.selects RX2 yX2_copyFrom yX2_copyFrom) ∈ wsL_law := kr_8 _ (List.mem_of_getElem? (i := 0) rfl)
theorem kw_8_1 : (Cond.code yX2_copyFrom cX2_copyFrom 2 none) ∈ wsL_law := kr_8 _ (List.mem_of_getElem? (i := 1) rfl)
theorem kw_8_2 : (Cond.fieldLink RX2 9 "PageRotas$Incident" "open" "Z") ∈ wsL_law := kr_8 _ (List.mem_of_getElem? (i := 2) rfl)
theorem kw_8_3 : (Cond.fieldLink RX2 15 "PageRotas$Incident" "cause" "I") ∈ wsL_law := kr_8 _ (List.mem_of_getElem? (i := 3) rfl)
theorem kw_8_4 : (Cond.fieldLink RX2 19 "PageRotas$Incident" "severity" "I") ∈ wsL_law := kr_8 _ (List.mem_of_getElem? (i := 4) rfl)
theorem kw_8_5 : (Cond.fieldLink RX2 22 "PageRotas$Incident" "level" "I") ∈ wsL_law := kr_8 _ (List.mem_of_getElem? (i := 5) rfl)
theorem kw_8_6 : (Cond.fieldLink RX2 25 "PageRotas$Incident" "owner" "I") ∈ wsL_law := kr_8 _ (List.mem_of_getElem? (i := 6) rfl)
theorem kw_8_7 : (Cond.fieldLink RX2 28 "PageRotas$Incident" "region" "I") ∈ wsL_law := kr_8 _ (List.mem_of_getElem? (i := 7) rfl)
theorem kw_8_8 : (Cond.fieldLink RX2 31 "PageRotas$Incident" "pagedAt" "I") ∈ wsL_law := kr_8 _ (List.mem_of_getElem? (i := 8) rfl)
theorem kw_8_9 : (Cond.fieldLink RX2 34 "PageRotas$Incident" "acknowledged" "Z") ∈ wsL_law := kr_8 _ (List.mem_of_getElem? (i := 9) rfl)
theorem kw_8_10 : (Cond.fieldLink RX2 37 "PageRotas$Incident" "alerts" "I") ∈ wsL_law := kr_8 _ (List.mem_of_getElem? (i := 10) rfl)
theorem kw_8_11 : (Cond.fieldLink RX2 40 "PageRotas$Incident" "firstAlert" "I") ∈ wsL_law := kr_8 _ (List.mem_of_getElem? (i := 11) rfl)
theorem kw_8_12 : (Cond.fieldLink RX2 43 "PageRotas$Incident" "latestAlert" "I") ∈ wsL_law := kr_8 _ (List.mem_of_getElem? (i := 12) rfl)
theorem kw_8_13 : (Cond.fieldLink RX2 46 "PageRotas$Incident" "unowned" "I") ∈ wsL_law := kr_8 _ (List.mem_of_getElem? (i := 13) rfl)
theorem kw_8_14 : (Cond.fieldLink RX2 49 "PageRotas$Incident" "handOffs" "I") ∈ wsL_law := kr_8 _ (List.mem_of_getElem? (i := 14) rfl)
theorem kw_8_15 : (Cond.fieldLink RX2 52 "PageRotas$Incident" "escalations" "I") ∈ wsL_law := kr_8 _ (List.mem_of_getElem? (i := 15) rfl)
theorem kw_8_16 : (Cond.methodLink RX1 46 yX9_copyFrom) ∈ wsL_law := kr_8 _ (List.mem_of_getElem? (i := 16) rfl)
theorem kw_8_17 : (Cond.instanceMethod yX9_copyFrom) ∈ wsL_law := kr_8 _ (List.mem_of_getElem? (i := 17) rfl)
theorem kw_8_18 : (Cond.selects RX9 yX9_copyFrom yX9_copyFrom) ∈ wsL_law := kr_8 _ (List.mem_of_getElem? (i := 18) rfl)
theorem kw_8_19 : (Cond.code yX9_copyFrom cX9_copyFrom 2 none) ∈ wsL_law := kr_8 _ (List.mem_of_getElem? (i := 19) rfl)
theorem kw_8_20 : (Cond.fieldLink RX9 9 "PageRotas$Totals" "alerts" "I") ∈ wsL_law := kr_8 _ (List.mem_of_getElem? (i := 20) rfl)
theorem kw_8_21 : (Cond.fieldLink RX9 15 "PageRotas$Totals" "folded" "I") ∈ wsL_law := kr_8 _ (List.mem_of_getElem? (i := 21) rfl)
theorem kw_8_22 : (Cond.fieldLink RX9 18 "PageRotas$Totals" "pages" "I") ∈ wsL_law := kr_8 _ (List.mem_of_getElem? (i := 22) rfl)
theorem kw_8_23 : (Cond.fieldLink RX9 21 "PageRotas$Totals" "resolved" "I") ∈ wsL_law := kr_8 _ (List.mem_of_getElem? (i := 23) rfl)
theorem kw_9_0 : (Cond.fieldLink RX9 24 "PageRotas$Totals" "handOffs" "I") ∈ wsL_law := kr_9 _ (List.mem_of_getElem? (i := 0) rfl)
theorem kw_9_1 : (Cond.fieldLink RX9 27 "PageRotas$Totals" "escalations" "I") ∈ wsL_law := kr_9 _ (List.mem_of_getElem? (i := 1) rfl)
theorem kw_9_2 : (Cond.fieldLink RX9 30 "PageRotas$Totals" "unowned" "I") ∈ wsL_law := kr_9 _ (List.mem_of_getElem? (i := 2) rfl)
theorem kw_9_3 : (Cond.fieldLink RX9 33 "PageRotas$Totals" "open" "I") ∈ wsL_law := kr_9 _ (List.mem_of_getElem? (i := 3) rfl)
theorem kw_9_4 : (Cond.fieldLink RX9 36 "PageRotas$Totals" "acknowledgements" "I") ∈ wsL_law := kr_9 _ (List.mem_of_getElem? (i := 4) rfl)
theorem kw_9_5 : (Cond.fieldLink RX9 39 "PageRotas$Totals" "minutesToAcknowledge" "I") ∈ wsL_law := kr_9 _ (List.mem_of_getElem? (i := 5) rfl)
theorem kw_9_6 : (Cond.methodLink RX10 41 yX5_addPerson) ∈ wsL_law := kr_9 _ (List.mem_of_getElem? (i := 6) rfl)
theorem kw_9_7 : (Cond.instanceMethod yX5_addPerson) ∈ wsL_law := kr_9 _ (List.mem_of_getElem? (i := 7) rfl)
theorem kw_9_8 : (Cond.selects RX5 yX5_addPerson yX5_addPerson) ∈ wsL_law := kr_9 _ (List.mem_of_getElem? (i := 8) rfl)
theorem kw_9_9 : (Cond.code yX5_addPerson cX5_addPerson 2 (some .int)) ∈ wsL_law := kr_9 _ (List.mem_of_getElem? (i := 9) rfl)
theorem kw_9_10 : (Cond.methodLink RX10 47 yX10_settled) ∈ wsL_law := kr_9 _ (List.mem_of_getElem? (i := 10) rfl)
theorem kw_9_11 : (Cond.instanceMethod yX10_settled) ∈ wsL_law := kr_9 _ (List.mem_of_getElem? (i := 11) rfl)
theorem kw_9_12 : (Cond.selects RX10 yX10_settled yX10_settled) ∈ wsL_law := kr_9 _ (List.mem_of_getElem? (i := 12) rfl)
theorem kw_9_13 : (Cond.code yX10_settled cX10_settled 2 (some .int)) ∈ wsL_law := kr_9 _ (List.mem_of_getElem? (i := 13) rfl)
theorem kw_9_14 : (Cond.methodLink RX10 268 yX0_keepPrepared) ∈ wsL_law := kr_9 _ (List.mem_of_getElem? (i := 14) rfl)
theorem kw_9_15 : (Cond.instanceMethod yX0_keepPrepared) ∈ wsL_law := kr_9 _ (List.mem_of_getElem? (i := 15) rfl)
theorem kw_9_16 : (Cond.selects RX0 yX0_keepPrepared yX0_keepPrepared) ∈ wsL_law := kr_9 _ (List.mem_of_getElem? (i := 16) rfl)
theorem kw_9_17 : (Cond.code yX0_keepPrepared cX0_keepPrepared 1 none) ∈ wsL_law := kr_9 _ (List.mem_of_getElem? (i := 17) rfl)
theorem kw_9_18 : (Cond.methodLink RX0 26 yX0_dropOldest) ∈ wsL_law := kr_9 _ (List.mem_of_getElem? (i := 18) rfl)
theorem kw_9_19 : (Cond.instanceMethod yX0_dropOldest) ∈ wsL_law := kr_9 _ (List.mem_of_getElem? (i := 19) rfl)
theorem kw_9_20 : (Cond.selects RX0 yX0_dropOldest yX0_dropOldest) ∈ wsL_law := kr_9 _ (List.mem_of_getElem? (i := 20) rfl)
theorem kw_9_21 : (Cond.code yX0_dropOldest cX0_dropOldest 3 none) ∈ wsL_law := kr_9 _ (List.mem_of_getElem? (i := 21) rfl)
theorem kw_9_22 : (Cond.methodLink RL 17 yX11_person) ∈ wsL_law := kr_9 _ (List.mem_of_getElem? (i := 22) rfl)
theorem kw_9_23 : (Cond.instanceMethod yX11_person) ∈ wsL_law := kr_9 _ (List.mem_of_getElem? (i := 23) rfl)
theorem kw_10_0 : (Cond.selects RX11 yX11_person yX11_person) ∈ wsL_law := kr_10 _ (List.mem_of_getElem? (i := 0) rfl)
theorem kw_10_1 : (Cond.code yX11_person cX11_person 1 (some .int)) ∈ wsL_law := kr_10 _ (List.mem_of_getElem? (i := 1) rfl)
theorem kw_10_2 : (Cond.methodLink RX11 108 yX11_begins) ∈ wsL_law := kr_10 _ (List.mem_of_getElem? (i := 2) rfl)
theorem kw_10_3 : (Cond.instanceMethod yX11_begins) ∈ wsL_law := kr_10 _ (List.mem_of_getElem? (i := 3) rfl)
theorem kw_10_4 : (Cond.selects RX11 yX11_begins yX11_begins) ∈ wsL_law := kr_10 _ (List.mem_of_getElem? (i := 4) rfl)
theorem kw_10_5 : (Cond.code yX11_begins cX11_begins 2 none) ∈ wsL_law := kr_10 _ (List.mem_of_getElem? (i := 5) rfl)
theorem kw_10_6 : (Cond.methodLink RX11 111 yX11_comes) ∈ wsL_law := kr_10 _ (List.mem_of_getElem? (i := 6) rfl)
theorem kw_10_7 : (Cond.instanceMethod yX11_comes) ∈ wsL_law := kr_10 _ (List.mem_of_getElem? (i := 7) rfl)
theorem kw_10_8 : (Cond.selects RX11 yX11_comes yX11_comes) ∈ wsL_law := kr_10 _ (List.mem_of_getElem? (i := 8) rfl)
theorem kw_10_9 : (Cond.code yX11_comes cX11_comes 1 (some .int)) ∈ wsL_law := kr_10 _ (List.mem_of_getElem? (i := 9) rfl)
theorem kw_10_10 : (Cond.methodLink RX11 114 yX11_acted) ∈ wsL_law := kr_10 _ (List.mem_of_getElem? (i := 10) rfl)
theorem kw_10_11 : (Cond.instanceMethod yX11_acted) ∈ wsL_law := kr_10 _ (List.mem_of_getElem? (i := 11) rfl)
theorem kw_10_12 : (Cond.selects RX11 yX11_acted yX11_acted) ∈ wsL_law := kr_10 _ (List.mem_of_getElem? (i := 12) rfl)
theorem kw_10_13 : (Cond.code yX11_acted cX11_acted 3 (some .int)) ∈ wsL_law := kr_10 _ (List.mem_of_getElem? (i := 13) rfl)
theorem kw_10_14 : (Cond.fieldLink RX11 28 "PageRotasModel" "states" "I") ∈ wsL_law := kr_10 _ (List.mem_of_getElem? (i := 14) rfl)
theorem kw_10_15 : (Cond.methodLink RL 18 yX10_region) ∈ wsL_law := kr_10 _ (List.mem_of_getElem? (i := 15) rfl)
theorem kw_10_16 : (Cond.instanceMethod yX10_region) ∈ wsL_law := kr_10 _ (List.mem_of_getElem? (i := 16) rfl)
theorem kw_10_17 : (Cond.selects RX10 yX10_region yX10_region) ∈ wsL_law := kr_10 _ (List.mem_of_getElem? (i := 17) rfl)
theorem kw_10_18 : (Cond.code yX10_region cX10_region 4 (some .int)) ∈ wsL_law := kr_10 _ (List.mem_of_getElem? (i := 18) rfl)
theorem kw_10_19 : (Cond.methodLink RX10 51 yX5_addRegion) ∈ wsL_law := kr_10 _ (List.mem_of_getElem? (i := 19) rfl)
theorem kw_10_20 : (Cond.instanceMethod yX5_addRegion) ∈ wsL_law := kr_10 _ (List.mem_of_getElem? (i := 20) rfl)
theorem kw_10_21 : (Cond.selects RX5 yX5_addRegion yX5_addRegion) ∈ wsL_law := kr_10 _ (List.mem_of_getElem? (i := 21) rfl)
theorem kw_10_22 : (Cond.code yX5_addRegion cX5_addRegion 5 (some .int)) ∈ wsL_law := kr_10 _ (List.mem_of_getElem? (i := 22) rfl)
theorem kw_10_23 : (Cond.methodLink RX5 52 yX7_isHour) ∈ wsL_law := kr_10 _ (List.mem_of_getElem? (i := 23) rfl)
theorem kw_11_0 : (Cond.static yX7_isHour) ∈ wsL_law := kr_11 _ (List.mem_of_getElem? (i := 0) rfl)
theorem kw_11_1 : (Cond.code yX7_isHour cX7_isHour 1 (some .boolean)) ∈ wsL_law := kr_11 _ (List.mem_of_getElem? (i := 1) rfl)
theorem kw_11_2 : (Cond.methodLink RX5 58 yX4_put) ∈ wsL_law := kr_11 _ (List.mem_of_getElem? (i := 2) rfl)
theorem kw_11_3 : (Cond.instanceMethod yX4_put) ∈ wsL_law := kr_11 _ (List.mem_of_getElem? (i := 3) rfl)
theorem kw_11_4 : (Cond.selects RX4 yX4_put yX4_put) ∈ wsL_law := kr_11 _ (List.mem_of_getElem? (i := 4) rfl)
theorem kw_11_5 : (Cond.code yX4_put cX4_put 4 none) ∈ wsL_law := kr_11 _ (List.mem_of_getElem? (i := 5) rfl)
theorem kw_11_6 : (Cond.methodLink RL 22 yX11_region) ∈ wsL_law := kr_11 _ (List.mem_of_getElem? (i := 6) rfl)
theorem kw_11_7 : (Cond.instanceMethod yX11_region) ∈ wsL_law := kr_11 _ (List.mem_of_getElem? (i := 7) rfl)
theorem kw_11_8 : (Cond.selects RX11 yX11_region yX11_region) ∈ wsL_law := kr_11 _ (List.mem_of_getElem? (i := 8) rfl)
theorem kw_11_9 : (Cond.code yX11_region cX11_region 4 (some .int)) ∈ wsL_law := kr_11 _ (List.mem_of_getElem? (i := 9) rfl)
theorem kw_11_10 : (Cond.methodLink RX11 117 yX11_lies) ∈ wsL_law := kr_11 _ (List.mem_of_getElem? (i := 10) rfl)
theorem kw_11_11 : (Cond.instanceMethod yX11_lies) ∈ wsL_law := kr_11 _ (List.mem_of_getElem? (i := 11) rfl)
theorem kw_11_12 : (Cond.selects RX11 yX11_lies yX11_lies) ∈ wsL_law := kr_11 _ (List.mem_of_getElem? (i := 12) rfl)
theorem kw_11_13 : (Cond.code yX11_lies cX11_lies 5 (some .int)) ∈ wsL_law := kr_11 _ (List.mem_of_getElem? (i := 13) rfl)
theorem kw_11_14 : (Cond.methodLink RX11 32 yX11_in) ∈ wsL_law := kr_11 _ (List.mem_of_getElem? (i := 14) rfl)
theorem kw_11_15 : (Cond.static yX11_in) ∈ wsL_law := kr_11 _ (List.mem_of_getElem? (i := 15) rfl)
theorem kw_11_16 : (Cond.code yX11_in cX11_in 3 (some .boolean)) ∈ wsL_law := kr_11 _ (List.mem_of_getElem? (i := 16) rfl)
theorem kw_11_17 : (Cond.methodLink RL 23 yX10_join) ∈ wsL_law := kr_11 _ (List.mem_of_getElem? (i := 17) rfl)
theorem kw_11_18 : (Cond.instanceMethod yX10_join) ∈ wsL_law := kr_11 _ (List.mem_of_getElem? (i := 18) rfl)
theorem kw_11_19 : (Cond.selects RX10 yX10_join yX10_join) ∈ wsL_law := kr_11 _ (List.mem_of_getElem? (i := 19) rfl)
theorem kw_11_20 : (Cond.code yX10_join cX10_join 3 (some .int)) ∈ wsL_law := kr_11 _ (List.mem_of_getElem? (i := 20) rfl)
theorem kw_11_21 : (Cond.methodLink RX10 55 yX5_letJoin) ∈ wsL_law := kr_11 _ (List.mem_of_getElem? (i := 21) rfl)
theorem kw_11_22 : (Cond.instanceMethod yX5_letJoin) ∈ wsL_law := kr_11 _ (List.mem_of_getElem? (i := 22) rfl)
theorem kw_11_23 : (Cond.selects RX5 yX5_letJoin yX5_letJoin) ∈ wsL_law := kr_11 _ (List.mem_of_getElem? (i := 23) rfl)
theorem kw_12_0 : (Cond.code yX5_letJoin cX5_letJoin 3 (some .int)) ∈ wsL_law := kr_12 _ (List.mem_of_getElem? (i := 0) rfl)
theorem kw_12_1 : (Cond.methodLink RX5 62 yX5_hasRegion) ∈ wsL_law := kr_12 _ (List.mem_of_getElem? (i := 1) rfl)
theorem kw_12_2 : (Cond.instanceMethod yX5_hasRegion) ∈ wsL_law := kr_12 _ (List.mem_of_getElem? (i := 2) rfl)
theorem kw_12_3 : (Cond.selects RX5 yX5_hasRegion yX5_hasRegion) ∈ wsL_law := kr_12 _ (List.mem_of_getElem? (i := 3) rfl)
theorem kw_12_4 : (Cond.code yX5_hasRegion cX5_hasRegion 2 (some .boolean)) ∈ wsL_law := kr_12 _ (List.mem_of_getElem? (i := 4) rfl)
theorem kw_12_5 : (Cond.methodLink RX5 65 yX5_hasPerson) ∈ wsL_law := kr_12 _ (List.mem_of_getElem? (i := 5) rfl)
theorem kw_12_6 : (Cond.instanceMethod yX5_hasPerson) ∈ wsL_law := kr_12 _ (List.mem_of_getElem? (i := 6) rfl)
theorem kw_12_7 : (Cond.selects RX5 yX5_hasPerson yX5_hasPerson) ∈ wsL_law := kr_12 _ (List.mem_of_getElem? (i := 7) rfl)
theorem kw_12_8 : (Cond.code yX5_hasPerson cX5_hasPerson 2 (some .boolean)) ∈ wsL_law := kr_12 _ (List.mem_of_getElem? (i := 8) rfl)
theorem kw_12_9 : (Cond.methodLink RX5 68 yX4_add) ∈ wsL_law := kr_12 _ (List.mem_of_getElem? (i := 9) rfl)
theorem kw_12_10 : (Cond.instanceMethod yX4_add) ∈ wsL_law := kr_12 _ (List.mem_of_getElem? (i := 10) rfl)
theorem kw_12_11 : (Cond.selects RX4 yX4_add yX4_add) ∈ wsL_law := kr_12 _ (List.mem_of_getElem? (i := 11) rfl)
theorem kw_12_12 : (Cond.code yX4_add cX4_add 2 (some .int)) ∈ wsL_law := kr_12 _ (List.mem_of_getElem? (i := 12) rfl)
theorem kw_12_13 : (Cond.methodLink RX4 49 yX4_placeOf) ∈ wsL_law := kr_12 _ (List.mem_of_getElem? (i := 13) rfl)
theorem kw_12_14 : (Cond.instanceMethod yX4_placeOf) ∈ wsL_law := kr_12 _ (List.mem_of_getElem? (i := 14) rfl)
theorem kw_12_15 : (Cond.selects RX4 yX4_placeOf yX4_placeOf) ∈ wsL_law := kr_12 _ (List.mem_of_getElem? (i := 15) rfl)
theorem kw_12_16 : (Cond.code yX4_placeOf cX4_placeOf 3 (some .int)) ∈ wsL_law := kr_12 _ (List.mem_of_getElem? (i := 16) rfl)
theorem kw_12_17 : (Cond.methodLink RL 27 yX11_join) ∈ wsL_law := kr_12 _ (List.mem_of_getElem? (i := 17) rfl)
theorem kw_12_18 : (Cond.instanceMethod yX11_join) ∈ wsL_law := kr_12 _ (List.mem_of_getElem? (i := 18) rfl)
theorem kw_12_19 : (Cond.selects RX11 yX11_join yX11_join) ∈ wsL_law := kr_12 _ (List.mem_of_getElem? (i := 19) rfl)
theorem kw_12_20 : (Cond.code yX11_join cX11_join 3 (some .int)) ∈ wsL_law := kr_12 _ (List.mem_of_getElem? (i := 20) rfl)
theorem kw_12_21 : (Cond.methodLink RX11 121 yX11_joins) ∈ wsL_law := kr_12 _ (List.mem_of_getElem? (i := 21) rfl)
theorem kw_12_22 : (Cond.instanceMethod yX11_joins) ∈ wsL_law := kr_12 _ (List.mem_of_getElem? (i := 22) rfl)
theorem kw_12_23 : (Cond.selects RX11 yX11_joins yX11_joins) ∈ wsL_law := kr_12 _ (List.mem_of_getElem? (i := 23) rfl)
theorem kw_13_0 : (Cond.code yX11_joins cX11_joins 5 (some .int)) ∈ wsL_law := kr_13 _ (List.mem_of_getElem? (i := 0) rfl)
theorem kw_13_1 : (Cond.methodLink RX11 77 yX11_isRegion) ∈ wsL_law := kr_13 _ (List.mem_of_getElem? (i := 1) rfl)
theorem kw_13_2 : (Cond.instanceMethod yX11_isRegion) ∈ wsL_law := kr_13 _ (List.mem_of_getElem? (i := 2) rfl)
theorem kw_13_3 : (Cond.selects RX11 yX11_isRegion yX11_isRegion) ∈ wsL_law := kr_13 _ (List.mem_of_getElem? (i := 3) rfl)
theorem kw_13_4 : (Cond.code yX11_isRegion cX11_isRegion 2 (some .boolean)) ∈ wsL_law := kr_13 _ (List.mem_of_getElem? (i := 4) rfl)
theorem kw_13_5 : (Cond.methodLink RX11 80 yX11_isPerson) ∈ wsL_law := kr_13 _ (List.mem_of_getElem? (i := 5) rfl)
theorem kw_13_6 : (Cond.instanceMethod yX11_isPerson) ∈ wsL_law := kr_13 _ (List.mem_of_getElem? (i := 6) rfl)
theorem kw_13_7 : (Cond.selects RX11 yX11_isPerson yX11_isPerson) ∈ wsL_law := kr_13 _ (List.mem_of_getElem? (i := 7) rfl)
theorem kw_13_8 : (Cond.code yX11_isPerson cX11_isPerson 2 (some .boolean)) ∈ wsL_law := kr_13 _ (List.mem_of_getElem? (i := 8) rfl)
theorem kw_13_9 : (Cond.methodLink RX11 83 yX11_placeIn) ∈ wsL_law := kr_13 _ (List.mem_of_getElem? (i := 9) rfl)
theorem kw_13_10 : (Cond.instanceMethod yX11_placeIn) ∈ wsL_law := kr_13 _ (List.mem_of_getElem? (i := 10) rfl)
theorem kw_13_11 : (Cond.selects RX11 yX11_placeIn yX11_placeIn) ∈ wsL_law := kr_13 _ (List.mem_of_getElem? (i := 11) rfl)
theorem kw_13_12 : (Cond.code yX11_placeIn cX11_placeIn 5 (some .int)) ∈ wsL_law := kr_13 _ (List.mem_of_getElem? (i := 12) rfl)
theorem kw_13_13 : (Cond.methodLink RX11 40 yX11_ofWhere) ∈ wsL_law := kr_13 _ (List.mem_of_getElem? (i := 13) rfl)
theorem kw_13_14 : (Cond.instanceMethod yX11_ofWhere) ∈ wsL_law := kr_13 _ (List.mem_of_getElem? (i := 14) rfl)
theorem kw_13_15 : (Cond.selects RX11 yX11_ofWhere yX11_ofWhere) ∈ wsL_law := kr_13 _ (List.mem_of_getElem? (i := 15) rfl)
theorem kw_13_16 : (Cond.code yX11_ofWhere cX11_ofWhere 3 (some .int)) ∈ wsL_law := kr_13 _ (List.mem_of_getElem? (i := 16) rfl)
theorem kw_13_17 : (Cond.methodLink RL 28 yX10_leave) ∈ wsL_law := kr_13 _ (List.mem_of_getElem? (i := 17) rfl)
theorem kw_13_18 : (Cond.instanceMethod yX10_leave) ∈ wsL_law := kr_13 _ (List.mem_of_getElem? (i := 18) rfl)
theorem kw_13_19 : (Cond.selects RX10 yX10_leave yX10_leave) ∈ wsL_law := kr_13 _ (List.mem_of_getElem? (i := 19) rfl)
theorem kw_13_20 : (Cond.code yX10_leave cX10_leave 3 (some .int)) ∈ wsL_law := kr_13 _ (List.mem_of_getElem? (i := 20) rfl)
theorem kw_13_21 : (Cond.methodLink RX10 59 yX5_letLeave) ∈ wsL_law := kr_13 _ (List.mem_of_getElem? (i := 21) rfl)
theorem kw_13_22 : (Cond.instanceMethod yX5_letLeave) ∈ wsL_law := kr_13 _ (List.mem_of_getElem? (i := 22) rfl)
theorem kw_13_23 : (Cond.selects RX5 yX5_letLeave yX5_letLeave) ∈ wsL_law := kr_13 _ (List.mem_of_getElem? (i := 23) rfl)
theorem kw_14_0 : (Cond.code yX5_letLeave cX5_letLeave 3 (some .int)) ∈ wsL_law := kr_14 _ (List.mem_of_getElem? (i := 0) rfl)
theorem kw_14_1 : (Cond.methodLink RX5 72 yX4_remove) ∈ wsL_law := kr_14 _ (List.mem_of_getElem? (i := 1) rfl)
theorem kw_14_2 : (Cond.instanceMethod yX4_remove) ∈ wsL_law := kr_14 _ (List.mem_of_getElem? (i := 2) rfl)
theorem kw_14_3 : (Cond.selects RX4 yX4_remove yX4_remove) ∈ wsL_law := kr_14 _ (List.mem_of_getElem? (i := 3) rfl)
theorem kw_14_4 : (Cond.code yX4_remove cX4_remove 4 (some .int)) ∈ wsL_law := kr_14 _ (List.mem_of_getElem? (i := 4) rfl)
theorem kw_14_5 : (Cond.methodLink RL 31 yX11_leave) ∈ wsL_law := kr_14 _ (List.mem_of_getElem? (i := 5) rfl)
theorem kw_14_6 : (Cond.instanceMethod yX11_leave) ∈ wsL_law := kr_14 _ (List.mem_of_getElem? (i := 6) rfl)
theorem kw_14_7 : (Cond.selects RX11 yX11_leave yX11_leave) ∈ wsL_law := kr_14 _ (List.mem_of_getElem? (i := 7) rfl)
theorem kw_14_8 : (Cond.code yX11_leave cX11_leave 3 (some .int)) ∈ wsL_law := kr_14 _ (List.mem_of_getElem? (i := 8) rfl)
theorem kw_14_9 : (Cond.methodLink RX11 124 yX11_leaves) ∈ wsL_law := kr_14 _ (List.mem_of_getElem? (i := 9) rfl)
theorem kw_14_10 : (Cond.instanceMethod yX11_leaves) ∈ wsL_law := kr_14 _ (List.mem_of_getElem? (i := 10) rfl)
theorem kw_14_11 : (Cond.selects RX11 yX11_leaves yX11_leaves) ∈ wsL_law := kr_14 _ (List.mem_of_getElem? (i := 11) rfl)
theorem kw_14_12 : (Cond.code yX11_leaves cX11_leaves 6 (some .int)) ∈ wsL_law := kr_14 _ (List.mem_of_getElem? (i := 12) rfl)
theorem kw_14_13 : (Cond.methodLink RL 32 yX10_quiet) ∈ wsL_law := kr_14 _ (List.mem_of_getElem? (i := 13) rfl)
theorem kw_14_14 : (Cond.instanceMethod yX10_quiet) ∈ wsL_law := kr_14 _ (List.mem_of_getElem? (i := 14) rfl)
theorem kw_14_15 : (Cond.selects RX10 yX10_quiet yX10_quiet) ∈ wsL_law := kr_14 _ (List.mem_of_getElem? (i := 15) rfl)
theorem kw_14_16 : (Cond.code yX10_quiet cX10_quiet 4 (some .int)) ∈ wsL_law := kr_14 _ (List.mem_of_getElem? (i := 16) rfl)
theorem kw_14_17 : (Cond.methodLink RX10 62 yX5_putQuietHours) ∈ wsL_law := kr_14 _ (List.mem_of_getElem? (i := 17) rfl)
theorem kw_14_18 : (Cond.instanceMethod yX5_putQuietHours) ∈ wsL_law := kr_14 _ (List.mem_of_getElem? (i := 18) rfl)
theorem kw_14_19 : (Cond.selects RX5 yX5_putQuietHours yX5_putQuietHours) ∈ wsL_law := kr_14 _ (List.mem_of_getElem? (i := 19) rfl)
theorem kw_14_20 : (Cond.code yX5_putQuietHours cX5_putQuietHours 4 (some .int)) ∈ wsL_law := kr_14 _ (List.mem_of_getElem? (i := 20) rfl)
theorem kw_14_21 : (Cond.fieldLink RX5 75 "PageRotas$Person" "quiet" "LPageRotas$Span;") ∈ wsL_law := kr_14 _ (List.mem_of_getElem? (i := 21) rfl)
theorem kw_14_22 : (Cond.methodLink RX5 79 yX7_put) ∈ wsL_law := kr_14 _ (List.mem_of_getElem? (i := 22) rfl)
theorem kw_14_23 : (Cond.methodLink RX5 82 yX7_hours) ∈ wsL_law := kr_14 _ (List.mem_of_getElem? (i := 23) rfl)
theorem kw_15_0 : (Cond.instanceMethod yX7_hours) ∈ wsL_law := kr_15 _ (List.mem_of_getElem? (i := 0) rfl)
theorem kw_15_1 : (Cond.selects RX7 yX7_hours yX7_hours) ∈ wsL_law := kr_15 _ (List.mem_of_getElem? (i := 1) rfl)
theorem kw_15_2 : (Cond.code yX7_hours cX7_hours 1 (some .int)) ∈ wsL_law := kr_15 _ (List.mem_of_getElem? (i := 2) rfl)
theorem kw_15_3 : (Cond.methodLink RL 35 yX11_quiet) ∈ wsL_law := kr_15 _ (List.mem_of_getElem? (i := 3) rfl)
theorem kw_15_4 : (Cond.instanceMethod yX11_quiet) ∈ wsL_law := kr_15 _ (List.mem_of_getElem? (i := 4) rfl)
theorem kw_15_5 : (Cond.selects RX11 yX11_quiet yX11_quiet) ∈ wsL_law := kr_15 _ (List.mem_of_getElem? (i := 5) rfl)
theorem kw_15_6 : (Cond.code yX11_quiet cX11_quiet 4 (some .int)) ∈ wsL_law := kr_15 _ (List.mem_of_getElem? (i := 6) rfl)
theorem kw_15_7 : (Cond.methodLink RX11 127 yX11_rests) ∈ wsL_law := kr_15 _ (List.mem_of_getElem? (i := 7) rfl)
theorem kw_15_8 : (Cond.instanceMethod yX11_rests) ∈ wsL_law := kr_15 _ (List.mem_of_getElem? (i := 8) rfl)
theorem kw_15_9 : (Cond.selects RX11 yX11_rests yX11_rests) ∈ wsL_law := kr_15 _ (List.mem_of_getElem? (i := 9) rfl)
theorem kw_15_10 : (Cond.code yX11_rests cX11_rests 5 (some .int)) ∈ wsL_law := kr_15 _ (List.mem_of_getElem? (i := 10) rfl)
theorem kw_15_11 : (Cond.methodLink RL 36 yX10_except) ∈ wsL_law := kr_15 _ (List.mem_of_getElem? (i := 11) rfl)
theorem kw_15_12 : (Cond.instanceMethod yX10_except) ∈ wsL_law := kr_15 _ (List.mem_of_getElem? (i := 12) rfl)
theorem kw_15_13 : (Cond.selects RX10 yX10_except yX10_except) ∈ wsL_law := kr_15 _ (List.mem_of_getElem? (i := 13) rfl)
theorem kw_15_14 : (Cond.code yX10_except cX10_except 3 (some .int)) ∈ wsL_law := kr_15 _ (List.mem_of_getElem? (i := 14) rfl)
theorem kw_15_15 : (Cond.methodLink RX10 65 yX5_turnException) ∈ wsL_law := kr_15 _ (List.mem_of_getElem? (i := 15) rfl)
theorem kw_15_16 : (Cond.instanceMethod yX5_turnException) ∈ wsL_law := kr_15 _ (List.mem_of_getElem? (i := 16) rfl)
theorem kw_15_17 : (Cond.selects RX5 yX5_turnException yX5_turnException) ∈ wsL_law := kr_15 _ (List.mem_of_getElem? (i := 17) rfl)
theorem kw_15_18 : (Cond.code yX5_turnException cX5_turnException 3 (some .int)) ∈ wsL_law := kr_15 _ (List.mem_of_getElem? (i := 18) rfl)
theorem kw_15_19 : (Cond.fieldLink RX5 86 "PageRotas$Person" "exceptions" "I") ∈ wsL_law := kr_15 _ (List.mem_of_getElem? (i := 19) rfl)
theorem kw_15_20 : (Cond.methodLink RX5 89 yJ6_bitCount_0f7a4) ∈ wsL_law := kr_15 _ (List.mem_of_getElem? (i := 20) rfl)
theorem kw_15_21 : (Cond.static yJ6_bitCount_0f7a4) ∈ wsL_law := kr_15 _ (List.mem_of_getElem? (i := 21) rfl)
theorem kw_15_22 : (Cond.initialized RJ6) ∈ wsL_law := kr_15 _ (List.mem_of_getElem? (i := 22) rfl)
theorem kw_15_23 : (Cond.code yJ6_bitCount_0f7a4 cJ6_bitCount_0f7a4 1 (some .int)) ∈ wsL_law := kr_15 _ (List.mem_of_getElem? (i := 23) rfl)
theorem kw_16_0 : (Cond.constant RJ6 265 (1431655765)) ∈ wsL_law := kr_16 _ (List.mem_of_getElem? (i := 0) rfl)
theorem kw_16_1 : (Cond.constant RJ6 266 (858993459)) ∈ wsL_law := kr_16 _ (List.mem_of_getElem? (i := 1) rfl)
theorem kw_16_2 : (Cond.constant RJ6 267 (252645135)) ∈ wsL_law := kr_16 _ (List.mem_of_getElem? (i := 2) rfl)
theorem kw_16_3 : (Cond.methodLink RL 39 yX11_except) ∈ wsL_law := kr_16 _ (List.mem_of_getElem? (i := 3) rfl)
theorem kw_16_4 : (Cond.instanceMethod yX11_except) ∈ wsL_law := kr_16 _ (List.mem_of_getElem? (i := 4) rfl)
theorem kw_16_5 : (Cond.selects RX11 yX11_except yX11_except) ∈ wsL_law := kr_16 _ (List.mem_of_getElem? (i := 5) rfl)
theorem kw_16_6 : (Cond.code yX11_except cX11_except 3 (some .int)) ∈ wsL_law := kr_16 _ (List.mem_of_getElem? (i := 6) rfl)
theorem kw_16_7 : (Cond.methodLink RX11 130 yX11_excepts) ∈ wsL_law := kr_16 _ (List.mem_of_getElem? (i := 7) rfl)
theorem kw_16_8 : (Cond.instanceMethod yX11_excepts) ∈ wsL_law := kr_16 _ (List.mem_of_getElem? (i := 8) rfl)
theorem kw_16_9 : (Cond.selects RX11 yX11_excepts yX11_excepts) ∈ wsL_law := kr_16 _ (List.mem_of_getElem? (i := 9) rfl)
theorem kw_16_10 : (Cond.code yX11_excepts cX11_excepts 3 (some .int)) ∈ wsL_law := kr_16 _ (List.mem_of_getElem? (i := 10) rfl)
theorem kw_16_11 : (Cond.methodLink RX11 54 yX11_ofWho) ∈ wsL_law := kr_16 _ (List.mem_of_getElem? (i := 11) rfl)
theorem kw_16_12 : (Cond.instanceMethod yX11_ofWho) ∈ wsL_law := kr_16 _ (List.mem_of_getElem? (i := 12) rfl)
theorem kw_16_13 : (Cond.selects RX11 yX11_ofWho yX11_ofWho) ∈ wsL_law := kr_16 _ (List.mem_of_getElem? (i := 13) rfl)
theorem kw_16_14 : (Cond.code yX11_ofWho cX11_ofWho 3 (some .int)) ∈ wsL_law := kr_16 _ (List.mem_of_getElem? (i := 14) rfl)
theorem kw_16_15 : (Cond.methodLink RX11 86 yX11_ones) ∈ wsL_law := kr_16 _ (List.mem_of_getElem? (i := 15) rfl)
theorem kw_16_16 : (Cond.static yX11_ones) ∈ wsL_law := kr_16 _ (List.mem_of_getElem? (i := 16) rfl)
theorem kw_16_17 : (Cond.code yX11_ones cX11_ones 3 (some .int)) ∈ wsL_law := kr_16 _ (List.mem_of_getElem? (i := 17) rfl)
theorem kw_16_18 : (Cond.methodLink RL 40 yX10_override) ∈ wsL_law := kr_16 _ (List.mem_of_getElem? (i := 18) rfl)
theorem kw_16_19 : (Cond.instanceMethod yX10_override) ∈ wsL_law := kr_16 _ (List.mem_of_getElem? (i := 19) rfl)
theorem kw_16_20 : (Cond.selects RX10 yX10_override yX10_override) ∈ wsL_law := kr_16 _ (List.mem_of_getElem? (i := 20) rfl)
theorem kw_16_21 : (Cond.code yX10_override cX10_override 4 (some .int)) ∈ wsL_law := kr_16 _ (List.mem_of_getElem? (i := 21) rfl)
theorem kw_16_22 : (Cond.methodLink RX10 68 yX1_putStandIn) ∈ wsL_law := kr_16 _ (List.mem_of_getElem? (i := 22) rfl)
theorem kw_16_23 : (Cond.instanceMethod yX1_putStandIn) ∈ wsL_law := kr_16 _ (List.mem_of_getElem? (i := 23) rfl)
theorem kw_17_0 : (Cond.selects RX1 yX1_putStandIn yX1_putStandIn) ∈ wsL_law := kr_17 _ (List.mem_of_getElem? (i := 0) rfl)
theorem kw_17_1 : (Cond.code yX1_putStandIn cX1_putStandIn 4 (some .int)) ∈ wsL_law := kr_17 _ (List.mem_of_getElem? (i := 1) rfl)
theorem kw_17_2 : (Cond.methodLink RX1 62 yX5_hasRegion) ∈ wsL_law := kr_17 _ (List.mem_of_getElem? (i := 2) rfl)
theorem kw_17_3 : (Cond.methodLink RX1 66 yX5_hasPerson) ∈ wsL_law := kr_17 _ (List.mem_of_getElem? (i := 3) rfl)
theorem kw_17_4 : (Cond.methodLink RX1 69 yX5_addStandIn) ∈ wsL_law := kr_17 _ (List.mem_of_getElem? (i := 4) rfl)
theorem kw_17_5 : (Cond.instanceMethod yX5_addStandIn) ∈ wsL_law := kr_17 _ (List.mem_of_getElem? (i := 5) rfl)
theorem kw_17_6 : (Cond.selects RX5 yX5_addStandIn yX5_addStandIn) ∈ wsL_law := kr_17 _ (List.mem_of_getElem? (i := 6) rfl)
theorem kw_17_7 : (Cond.code yX5_addStandIn cX5_addStandIn 6 (some .int)) ∈ wsL_law := kr_17 _ (List.mem_of_getElem? (i := 7) rfl)
theorem kw_17_8 : (Cond.fieldLink RX5 104 "PageRotas$StandIn" "region" "I") ∈ wsL_law := kr_17 _ (List.mem_of_getElem? (i := 8) rfl)
theorem kw_17_9 : (Cond.fieldLink RX5 107 "PageRotas$StandIn" "person" "I") ∈ wsL_law := kr_17 _ (List.mem_of_getElem? (i := 9) rfl)
theorem kw_17_10 : (Cond.fieldLink RX5 110 "PageRotas$StandIn" "end" "I") ∈ wsL_law := kr_17 _ (List.mem_of_getElem? (i := 10) rfl)
theorem kw_17_11 : (Cond.methodLink RX5 100 yX5_dropEndedStandIns) ∈ wsL_law := kr_17 _ (List.mem_of_getElem? (i := 11) rfl)
theorem kw_17_12 : (Cond.instanceMethod yX5_dropEndedStandIns) ∈ wsL_law := kr_17 _ (List.mem_of_getElem? (i := 12) rfl)
theorem kw_17_13 : (Cond.selects RX5 yX5_dropEndedStandIns yX5_dropEndedStandIns) ∈ wsL_law := kr_17 _ (List.mem_of_getElem? (i := 13) rfl)
theorem kw_17_14 : (Cond.code yX5_dropEndedStandIns cX5_dropEndedStandIns 4 none) ∈ wsL_law := kr_17 _ (List.mem_of_getElem? (i := 14) rfl)
theorem kw_17_15 : (Cond.methodLink RX5 97 yX8_isInForce) ∈ wsL_law := kr_17 _ (List.mem_of_getElem? (i := 15) rfl)
theorem kw_17_16 : (Cond.instanceMethod yX8_isInForce) ∈ wsL_law := kr_17 _ (List.mem_of_getElem? (i := 16) rfl)
theorem kw_17_17 : (Cond.selects RX8 yX8_isInForce yX8_isInForce) ∈ wsL_law := kr_17 _ (List.mem_of_getElem? (i := 17) rfl)
theorem kw_17_18 : (Cond.code yX8_isInForce cX8_isInForce 2 (some .boolean)) ∈ wsL_law := kr_17 _ (List.mem_of_getElem? (i := 18) rfl)
theorem kw_17_19 : (Cond.methodLink RL 43 yX11_override) ∈ wsL_law := kr_17 _ (List.mem_of_getElem? (i := 19) rfl)
theorem kw_17_20 : (Cond.instanceMethod yX11_override) ∈ wsL_law := kr_17 _ (List.mem_of_getElem? (i := 20) rfl)
theorem kw_17_21 : (Cond.selects RX11 yX11_override yX11_override) ∈ wsL_law := kr_17 _ (List.mem_of_getElem? (i := 21) rfl)
theorem kw_17_22 : (Cond.code yX11_override cX11_override 4 (some .int)) ∈ wsL_law := kr_17 _ (List.mem_of_getElem? (i := 22) rfl)
theorem kw_17_23 : (Cond.methodLink RX11 133 yX11_overrides) ∈ wsL_law := kr_17 _ (List.mem_of_getElem? (i := 23) rfl)
theorem kw_18_0 : (Cond.instanceMethod yX11_overrides) ∈ wsL_law := kr_18 _ (List.mem_of_getElem? (i := 0) rfl)
theorem kw_18_1 : (Cond.selects RX11 yX11_overrides yX11_overrides) ∈ wsL_law := kr_18 _ (List.mem_of_getElem? (i := 1) rfl)
theorem kw_18_2 : (Cond.code yX11_overrides cX11_overrides 5 (some .int)) ∈ wsL_law := kr_18 _ (List.mem_of_getElem? (i := 2) rfl)
theorem kw_18_3 : (Cond.methodLink RX11 89 yX11_inForce) ∈ wsL_law := kr_18 _ (List.mem_of_getElem? (i := 3) rfl)
theorem kw_18_4 : (Cond.instanceMethod yX11_inForce) ∈ wsL_law := kr_18 _ (List.mem_of_getElem? (i := 4) rfl)
theorem kw_18_5 : (Cond.selects RX11 yX11_inForce yX11_inForce) ∈ wsL_law := kr_18 _ (List.mem_of_getElem? (i := 5) rfl)
theorem kw_18_6 : (Cond.code yX11_inForce cX11_inForce 3 (some .int)) ∈ wsL_law := kr_18 _ (List.mem_of_getElem? (i := 6) rfl)
theorem kw_18_7 : (Cond.methodLink RX11 93 yX11_clears) ∈ wsL_law := kr_18 _ (List.mem_of_getElem? (i := 7) rfl)
theorem kw_18_8 : (Cond.instanceMethod yX11_clears) ∈ wsL_law := kr_18 _ (List.mem_of_getElem? (i := 8) rfl)
theorem kw_18_9 : (Cond.selects RX11 yX11_clears yX11_clears) ∈ wsL_law := kr_18 _ (List.mem_of_getElem? (i := 9) rfl)
theorem kw_18_10 : (Cond.code yX11_clears cX11_clears 4 none) ∈ wsL_law := kr_18 _ (List.mem_of_getElem? (i := 10) rfl)
theorem kw_18_11 : (Cond.methodLink RL 44 yX10_rotaAt) ∈ wsL_law := kr_18 _ (List.mem_of_getElem? (i := 11) rfl)
theorem kw_18_12 : (Cond.instanceMethod yX10_rotaAt) ∈ wsL_law := kr_18 _ (List.mem_of_getElem? (i := 12) rfl)
theorem kw_18_13 : (Cond.selects RX10 yX10_rotaAt yX10_rotaAt) ∈ wsL_law := kr_18 _ (List.mem_of_getElem? (i := 13) rfl)
theorem kw_18_14 : (Cond.code yX10_rotaAt cX10_rotaAt 4 (some .int)) ∈ wsL_law := kr_18 _ (List.mem_of_getElem? (i := 14) rfl)
theorem kw_18_15 : (Cond.fieldLink RX10 75 "PageRotas$Rotas" "regions" "[LPageRotas$Region;") ∈ wsL_law := kr_18 _ (List.mem_of_getElem? (i := 15) rfl)
theorem kw_18_16 : (Cond.methodLink RX10 71 yX5_hasRegion) ∈ wsL_law := kr_18 _ (List.mem_of_getElem? (i := 16) rfl)
theorem kw_18_17 : (Cond.methodLink RX10 79 yX4_memberAt) ∈ wsL_law := kr_18 _ (List.mem_of_getElem? (i := 17) rfl)
theorem kw_18_18 : (Cond.instanceMethod yX4_memberAt) ∈ wsL_law := kr_18 _ (List.mem_of_getElem? (i := 18) rfl)
theorem kw_18_19 : (Cond.selects RX4 yX4_memberAt yX4_memberAt) ∈ wsL_law := kr_18 _ (List.mem_of_getElem? (i := 19) rfl)
theorem kw_18_20 : (Cond.code yX4_memberAt cX4_memberAt 2 (some .int)) ∈ wsL_law := kr_18 _ (List.mem_of_getElem? (i := 20) rfl)
theorem kw_18_21 : (Cond.methodLink RL 47 yX11_rotaAt) ∈ wsL_law := kr_18 _ (List.mem_of_getElem? (i := 21) rfl)
theorem kw_18_22 : (Cond.instanceMethod yX11_rotaAt) ∈ wsL_law := kr_18 _ (List.mem_of_getElem? (i := 22) rfl)
theorem kw_18_23 : (Cond.selects RX11 yX11_rotaAt yX11_rotaAt) ∈ wsL_law := kr_18 _ (List.mem_of_getElem? (i := 23) rfl)
theorem kw_19_0 : (Cond.code yX11_rotaAt cX11_rotaAt 3 (some .int)) ∈ wsL_law := kr_19 _ (List.mem_of_getElem? (i := 0) rfl)
theorem kw_19_1 : (Cond.methodLink RL 48 yX10_personOf) ∈ wsL_law := kr_19 _ (List.mem_of_getElem? (i := 1) rfl)
theorem kw_19_2 : (Cond.instanceMethod yX10_personOf) ∈ wsL_law := kr_19 _ (List.mem_of_getElem? (i := 2) rfl)
theorem kw_19_3 : (Cond.selects RX10 yX10_personOf yX10_personOf) ∈ wsL_law := kr_19 _ (List.mem_of_getElem? (i := 3) rfl)
theorem kw_19_4 : (Cond.code yX10_personOf cX10_personOf 4 (some .int)) ∈ wsL_law := kr_19 _ (List.mem_of_getElem? (i := 4) rfl)
theorem kw_19_5 : (Cond.fieldLink RX10 87 "PageRotas$Rotas" "people" "[LPageRotas$Person;") ∈ wsL_law := kr_19 _ (List.mem_of_getElem? (i := 5) rfl)
theorem kw_19_6 : (Cond.fieldLink RX10 91 "PageRotas$Person" "pages" "I") ∈ wsL_law := kr_19 _ (List.mem_of_getElem? (i := 6) rfl)
theorem kw_19_7 : (Cond.fieldLink RX10 101 "PageRotas$Person" "resolved" "I") ∈ wsL_law := kr_19 _ (List.mem_of_getElem? (i := 7) rfl)
theorem kw_19_8 : (Cond.fieldLink RX10 107 "PageRotas$Person" "quiet" "LPageRotas$Span;") ∈ wsL_law := kr_19 _ (List.mem_of_getElem? (i := 8) rfl)
theorem kw_19_9 : (Cond.fieldLink RX10 111 "PageRotas$House" "time" "I") ∈ wsL_law := kr_19 _ (List.mem_of_getElem? (i := 9) rfl)
theorem kw_19_10 : (Cond.fieldLink RX10 122 "PageRotas$Person" "exceptions" "I") ∈ wsL_law := kr_19 _ (List.mem_of_getElem? (i := 10) rfl)
theorem kw_19_11 : (Cond.methodLink RX10 84 yX5_hasPerson) ∈ wsL_law := kr_19 _ (List.mem_of_getElem? (i := 11) rfl)
theorem kw_19_12 : (Cond.methodLink RX10 97 yX1_ownedBy) ∈ wsL_law := kr_19 _ (List.mem_of_getElem? (i := 12) rfl)
theorem kw_19_13 : (Cond.instanceMethod yX1_ownedBy) ∈ wsL_law := kr_19 _ (List.mem_of_getElem? (i := 13) rfl)
theorem kw_19_14 : (Cond.selects RX1 yX1_ownedBy yX1_ownedBy) ∈ wsL_law := kr_19 _ (List.mem_of_getElem? (i := 14) rfl)
theorem kw_19_15 : (Cond.code yX1_ownedBy cX1_ownedBy 6 (some .int)) ∈ wsL_law := kr_19 _ (List.mem_of_getElem? (i := 15) rfl)
theorem kw_19_16 : (Cond.fieldLink RX1 52 "PageRotas$Incident" "open" "Z") ∈ wsL_law := kr_19 _ (List.mem_of_getElem? (i := 16) rfl)
theorem kw_19_17 : (Cond.fieldLink RX1 59 "PageRotas$Incident" "owner" "I") ∈ wsL_law := kr_19 _ (List.mem_of_getElem? (i := 17) rfl)
theorem kw_19_18 : (Cond.fieldLink RX1 56 "PageRotas$Incident" "acknowledged" "Z") ∈ wsL_law := kr_19 _ (List.mem_of_getElem? (i := 18) rfl)
theorem kw_19_19 : (Cond.methodLink RX10 104 yX5_regionsOf) ∈ wsL_law := kr_19 _ (List.mem_of_getElem? (i := 19) rfl)
theorem kw_19_20 : (Cond.instanceMethod yX5_regionsOf) ∈ wsL_law := kr_19 _ (List.mem_of_getElem? (i := 20) rfl)
theorem kw_19_21 : (Cond.selects RX5 yX5_regionsOf yX5_regionsOf) ∈ wsL_law := kr_19 _ (List.mem_of_getElem? (i := 21) rfl)
theorem kw_19_22 : (Cond.code yX5_regionsOf cX5_regionsOf 4 (some .int)) ∈ wsL_law := kr_19 _ (List.mem_of_getElem? (i := 22) rfl)
theorem kw_19_23 : (Cond.methodLink RX5 94 yX4_placeOf) ∈ wsL_law := kr_19 _ (List.mem_of_getElem? (i := 23) rfl)
theorem kw_20_0 : (Cond.methodLink RX10 114 yX10_hourOfDay) ∈ wsL_law := kr_20 _ (List.mem_of_getElem? (i := 0) rfl)
theorem kw_20_1 : (Cond.static yX10_hourOfDay) ∈ wsL_law := kr_20 _ (List.mem_of_getElem? (i := 1) rfl)
theorem kw_20_2 : (Cond.code yX10_hourOfDay cX10_hourOfDay 1 (some .int)) ∈ wsL_law := kr_20 _ (List.mem_of_getElem? (i := 2) rfl)
theorem kw_20_3 : (Cond.methodLink RX10 117 yX7_has) ∈ wsL_law := kr_20 _ (List.mem_of_getElem? (i := 3) rfl)
theorem kw_20_4 : (Cond.instanceMethod yX7_has) ∈ wsL_law := kr_20 _ (List.mem_of_getElem? (i := 4) rfl)
theorem kw_20_5 : (Cond.selects RX7 yX7_has yX7_has) ∈ wsL_law := kr_20 _ (List.mem_of_getElem? (i := 5) rfl)
theorem kw_20_6 : (Cond.code yX7_has cX7_has 2 (some .boolean)) ∈ wsL_law := kr_20 _ (List.mem_of_getElem? (i := 6) rfl)
theorem kw_20_7 : (Cond.methodLink RL 51 yX11_personOf) ∈ wsL_law := kr_20 _ (List.mem_of_getElem? (i := 7) rfl)
theorem kw_20_8 : (Cond.instanceMethod yX11_personOf) ∈ wsL_law := kr_20 _ (List.mem_of_getElem? (i := 8) rfl)
theorem kw_20_9 : (Cond.selects RX11 yX11_personOf yX11_personOf) ∈ wsL_law := kr_20 _ (List.mem_of_getElem? (i := 9) rfl)
theorem kw_20_10 : (Cond.code yX11_personOf cX11_personOf 3 (some .int)) ∈ wsL_law := kr_20 _ (List.mem_of_getElem? (i := 10) rfl)
theorem kw_20_11 : (Cond.methodLink RX11 151 yX11_ownedBy) ∈ wsL_law := kr_20 _ (List.mem_of_getElem? (i := 11) rfl)
theorem kw_20_12 : (Cond.instanceMethod yX11_ownedBy) ∈ wsL_law := kr_20 _ (List.mem_of_getElem? (i := 12) rfl)
theorem kw_20_13 : (Cond.selects RX11 yX11_ownedBy yX11_ownedBy) ∈ wsL_law := kr_20 _ (List.mem_of_getElem? (i := 13) rfl)
theorem kw_20_14 : (Cond.code yX11_ownedBy cX11_ownedBy 6 (some .int)) ∈ wsL_law := kr_20 _ (List.mem_of_getElem? (i := 14) rfl)
theorem kw_20_15 : (Cond.methodLink RX11 36 yX11_incidentAt) ∈ wsL_law := kr_20 _ (List.mem_of_getElem? (i := 15) rfl)
theorem kw_20_16 : (Cond.static yX11_incidentAt) ∈ wsL_law := kr_20 _ (List.mem_of_getElem? (i := 16) rfl)
theorem kw_20_17 : (Cond.code yX11_incidentAt cX11_incidentAt 1 (some .int)) ∈ wsL_law := kr_20 _ (List.mem_of_getElem? (i := 17) rfl)
theorem kw_20_18 : (Cond.methodLink RX11 70 yX11_isIncident) ∈ wsL_law := kr_20 _ (List.mem_of_getElem? (i := 18) rfl)
theorem kw_20_19 : (Cond.instanceMethod yX11_isIncident) ∈ wsL_law := kr_20 _ (List.mem_of_getElem? (i := 19) rfl)
theorem kw_20_20 : (Cond.selects RX11 yX11_isIncident yX11_isIncident) ∈ wsL_law := kr_20 _ (List.mem_of_getElem? (i := 20) rfl)
theorem kw_20_21 : (Cond.code yX11_isIncident cX11_isIncident 2 (some .boolean)) ∈ wsL_law := kr_20 _ (List.mem_of_getElem? (i := 21) rfl)
theorem kw_20_22 : (Cond.methodLink RX11 155 yX11_rotasOf) ∈ wsL_law := kr_20 _ (List.mem_of_getElem? (i := 22) rfl)
theorem kw_20_23 : (Cond.instanceMethod yX11_rotasOf) ∈ wsL_law := kr_20 _ (List.mem_of_getElem? (i := 23) rfl)
theorem kw_21_0 : (Cond.selects RX11 yX11_rotasOf yX11_rotasOf) ∈ wsL_law := kr_21 _ (List.mem_of_getElem? (i := 0) rfl)
theorem kw_21_1 : (Cond.code yX11_rotasOf cX11_rotasOf 4 (some .int)) ∈ wsL_law := kr_21 _ (List.mem_of_getElem? (i := 1) rfl)
theorem kw_21_2 : (Cond.methodLink RX11 60 yX11_isQuiet) ∈ wsL_law := kr_21 _ (List.mem_of_getElem? (i := 2) rfl)
theorem kw_21_3 : (Cond.instanceMethod yX11_isQuiet) ∈ wsL_law := kr_21 _ (List.mem_of_getElem? (i := 3) rfl)
theorem kw_21_4 : (Cond.selects RX11 yX11_isQuiet yX11_isQuiet) ∈ wsL_law := kr_21 _ (List.mem_of_getElem? (i := 4) rfl)
theorem kw_21_5 : (Cond.code yX11_isQuiet cX11_isQuiet 3 (some .boolean)) ∈ wsL_law := kr_21 _ (List.mem_of_getElem? (i := 5) rfl)
theorem kw_21_6 : (Cond.methodLink RX11 44 yX11_isWithin) ∈ wsL_law := kr_21 _ (List.mem_of_getElem? (i := 6) rfl)
theorem kw_21_7 : (Cond.static yX11_isWithin) ∈ wsL_law := kr_21 _ (List.mem_of_getElem? (i := 7) rfl)
theorem kw_21_8 : (Cond.code yX11_isWithin cX11_isWithin 3 (some .boolean)) ∈ wsL_law := kr_21 _ (List.mem_of_getElem? (i := 8) rfl)
theorem kw_21_9 : (Cond.methodLink RL 52 yX10_alert) ∈ wsL_law := kr_21 _ (List.mem_of_getElem? (i := 9) rfl)
theorem kw_21_10 : (Cond.instanceMethod yX10_alert) ∈ wsL_law := kr_21 _ (List.mem_of_getElem? (i := 10) rfl)
theorem kw_21_11 : (Cond.selects RX10 yX10_alert yX10_alert) ∈ wsL_law := kr_21 _ (List.mem_of_getElem? (i := 11) rfl)
theorem kw_21_12 : (Cond.code yX10_alert cX10_alert 3 (some .int)) ∈ wsL_law := kr_21 _ (List.mem_of_getElem? (i := 12) rfl)
theorem kw_21_13 : (Cond.methodLink RX10 125 yX1_takeAlert) ∈ wsL_law := kr_21 _ (List.mem_of_getElem? (i := 13) rfl)
theorem kw_21_14 : (Cond.instanceMethod yX1_takeAlert) ∈ wsL_law := kr_21 _ (List.mem_of_getElem? (i := 14) rfl)
theorem kw_21_15 : (Cond.selects RX1 yX1_takeAlert yX1_takeAlert) ∈ wsL_law := kr_21 _ (List.mem_of_getElem? (i := 15) rfl)
theorem kw_21_16 : (Cond.code yX1_takeAlert cX1_takeAlert 5 (some .int)) ∈ wsL_law := kr_21 _ (List.mem_of_getElem? (i := 16) rfl)
theorem kw_21_17 : (Cond.fieldLink RX1 73 "PageRotas$Incident" "cause" "I") ∈ wsL_law := kr_21 _ (List.mem_of_getElem? (i := 17) rfl)
theorem kw_21_18 : (Cond.fieldLink RX1 76 "PageRotas$Incident" "latestAlert" "I") ∈ wsL_law := kr_21 _ (List.mem_of_getElem? (i := 18) rfl)
theorem kw_21_19 : (Cond.fieldLink RX1 95 "PageRotas$Totals" "alerts" "I") ∈ wsL_law := kr_21 _ (List.mem_of_getElem? (i := 19) rfl)
theorem kw_21_20 : (Cond.methodLink RX1 79 yX1_fold) ∈ wsL_law := kr_21 _ (List.mem_of_getElem? (i := 20) rfl)
theorem kw_21_21 : (Cond.instanceMethod yX1_fold) ∈ wsL_law := kr_21 _ (List.mem_of_getElem? (i := 21) rfl)
theorem kw_21_22 : (Cond.selects RX1 yX1_fold yX1_fold) ∈ wsL_law := kr_21 _ (List.mem_of_getElem? (i := 22) rfl)
theorem kw_21_23 : (Cond.code yX1_fold cX1_fold 3 (some .boolean)) ∈ wsL_law := kr_21 _ (List.mem_of_getElem? (i := 23) rfl)
theorem kw_22_0 : (Cond.fieldLink RX1 98 "PageRotas$Incident" "alerts" "I") ∈ wsL_law := kr_22 _ (List.mem_of_getElem? (i := 0) rfl)
theorem kw_22_1 : (Cond.fieldLink RX1 99 "PageRotas$Totals" "folded" "I") ∈ wsL_law := kr_22 _ (List.mem_of_getElem? (i := 1) rfl)
theorem kw_22_2 : (Cond.fieldLink RX1 102 "PageRotas$Incident" "severity" "I") ∈ wsL_law := kr_22 _ (List.mem_of_getElem? (i := 2) rfl)
theorem kw_22_3 : (Cond.methodLink RX1 83 yX5_regionAt) ∈ wsL_law := kr_22 _ (List.mem_of_getElem? (i := 3) rfl)
theorem kw_22_4 : (Cond.instanceMethod yX5_regionAt) ∈ wsL_law := kr_22 _ (List.mem_of_getElem? (i := 4) rfl)
theorem kw_22_5 : (Cond.selects RX5 yX5_regionAt yX5_regionAt) ∈ wsL_law := kr_22 _ (List.mem_of_getElem? (i := 5) rfl)
theorem kw_22_6 : (Cond.code yX5_regionAt cX5_regionAt 4 (some .int)) ∈ wsL_law := kr_22 _ (List.mem_of_getElem? (i := 6) rfl)
theorem kw_22_7 : (Cond.methodLink RX5 116 yX4_covers) ∈ wsL_law := kr_22 _ (List.mem_of_getElem? (i := 7) rfl)
theorem kw_22_8 : (Cond.instanceMethod yX4_covers) ∈ wsL_law := kr_22 _ (List.mem_of_getElem? (i := 8) rfl)
theorem kw_22_9 : (Cond.selects RX4 yX4_covers yX4_covers) ∈ wsL_law := kr_22 _ (List.mem_of_getElem? (i := 9) rfl)
theorem kw_22_10 : (Cond.code yX4_covers cX4_covers 2 (some .boolean)) ∈ wsL_law := kr_22 _ (List.mem_of_getElem? (i := 10) rfl)
theorem kw_22_11 : (Cond.methodLink RX4 45 yX7_has) ∈ wsL_law := kr_22 _ (List.mem_of_getElem? (i := 11) rfl)
theorem kw_22_12 : (Cond.methodLink RX1 87 yX1_page) ∈ wsL_law := kr_22 _ (List.mem_of_getElem? (i := 12) rfl)
theorem kw_22_13 : (Cond.instanceMethod yX1_page) ∈ wsL_law := kr_22 _ (List.mem_of_getElem? (i := 13) rfl)
theorem kw_22_14 : (Cond.selects RX1 yX1_page yX1_page) ∈ wsL_law := kr_22 _ (List.mem_of_getElem? (i := 14) rfl)
theorem kw_22_15 : (Cond.code yX1_page cX1_page 5 none) ∈ wsL_law := kr_22 _ (List.mem_of_getElem? (i := 15) rfl)
theorem kw_22_16 : (Cond.fieldLink RX1 105 "PageRotas$Incident" "region" "I") ∈ wsL_law := kr_22 _ (List.mem_of_getElem? (i := 16) rfl)
theorem kw_22_17 : (Cond.fieldLink RX1 108 "PageRotas$Incident" "level" "I") ∈ wsL_law := kr_22 _ (List.mem_of_getElem? (i := 17) rfl)
theorem kw_22_18 : (Cond.fieldLink RX1 115 "PageRotas$Rotas" "people" "[LPageRotas$Person;") ∈ wsL_law := kr_22 _ (List.mem_of_getElem? (i := 18) rfl)
theorem kw_22_19 : (Cond.fieldLink RX1 128 "PageRotas$Incident" "pagedAt" "I") ∈ wsL_law := kr_22 _ (List.mem_of_getElem? (i := 19) rfl)
theorem kw_22_20 : (Cond.fieldLink RX1 131 "PageRotas$Person" "pages" "I") ∈ wsL_law := kr_22 _ (List.mem_of_getElem? (i := 20) rfl)
theorem kw_22_21 : (Cond.fieldLink RX1 134 "PageRotas$Totals" "pages" "I") ∈ wsL_law := kr_22 _ (List.mem_of_getElem? (i := 21) rfl)
theorem kw_22_22 : (Cond.methodLink RX1 111 yX5_personAt) ∈ wsL_law := kr_22 _ (List.mem_of_getElem? (i := 22) rfl)
theorem kw_22_23 : (Cond.instanceMethod yX5_personAt) ∈ wsL_law := kr_22 _ (List.mem_of_getElem? (i := 23) rfl)
theorem kw_23_0 : (Cond.selects RX5 yX5_personAt yX5_personAt) ∈ wsL_law := kr_23 _ (List.mem_of_getElem? (i := 0) rfl)
theorem kw_23_1 : (Cond.code yX5_personAt cX5_personAt 5 (some .int)) ∈ wsL_law := kr_23 _ (List.mem_of_getElem? (i := 1) rfl)
theorem kw_23_2 : (Cond.methodLink RX5 119 Lib.Math.min.name) ∈ wsL_law := kr_23 _ (List.mem_of_getElem? (i := 2) rfl)
theorem kw_23_3 : (Cond.static Lib.Math.min.name) ∈ wsL_law := kr_23 _ (List.mem_of_getElem? (i := 3) rfl)
theorem kw_23_4 : (Cond.initialized "java/lang/Math") ∈ wsL_law := kr_23 _ (List.mem_of_getElem? (i := 4) rfl)
theorem kw_23_5 : (Cond.code Lib.Math.min.name Lib.Math.min.code 2 (some .int)) ∈ wsL_law := kr_23 _ (List.mem_of_getElem? (i := 5) rfl)
theorem kw_23_6 : (Cond.fieldLink RX5 125 "PageRotas$Region" "shift" "I") ∈ wsL_law := kr_23 _ (List.mem_of_getElem? (i := 6) rfl)
theorem kw_23_7 : (Cond.fieldLink RX5 128 "PageRotas$Region" "size" "I") ∈ wsL_law := kr_23 _ (List.mem_of_getElem? (i := 7) rfl)
theorem kw_23_8 : (Cond.methodLink RX5 131 yX4_memberAt) ∈ wsL_law := kr_23 _ (List.mem_of_getElem? (i := 8) rfl)
theorem kw_23_9 : (Cond.methodLink RX1 122 yX3_sleepsThrough) ∈ wsL_law := kr_23 _ (List.mem_of_getElem? (i := 9) rfl)
theorem kw_23_10 : (Cond.instanceMethod yX3_sleepsThrough) ∈ wsL_law := kr_23 _ (List.mem_of_getElem? (i := 10) rfl)
theorem kw_23_11 : (Cond.selects RX3 yX3_sleepsThrough yX3_sleepsThrough) ∈ wsL_law := kr_23 _ (List.mem_of_getElem? (i := 11) rfl)
theorem kw_23_12 : (Cond.code yX3_sleepsThrough cX3_sleepsThrough 4 (some .boolean)) ∈ wsL_law := kr_23 _ (List.mem_of_getElem? (i := 12) rfl)
theorem kw_23_13 : (Cond.methodLink RX3 36 yX7_has) ∈ wsL_law := kr_23 _ (List.mem_of_getElem? (i := 13) rfl)
theorem kw_23_14 : (Cond.methodLink RX1 91 yX2_makeNew) ∈ wsL_law := kr_23 _ (List.mem_of_getElem? (i := 14) rfl)
theorem kw_23_15 : (Cond.instanceMethod yX2_makeNew) ∈ wsL_law := kr_23 _ (List.mem_of_getElem? (i := 15) rfl)
theorem kw_23_16 : (Cond.selects RX2 yX2_makeNew yX2_makeNew) ∈ wsL_law := kr_23 _ (List.mem_of_getElem? (i := 16) rfl)
theorem kw_23_17 : (Cond.code yX2_makeNew cX2_makeNew 4 none) ∈ wsL_law := kr_23 _ (List.mem_of_getElem? (i := 17) rfl)
theorem kw_23_18 : (Cond.methodLink RL 55 yX11_alert) ∈ wsL_law := kr_23 _ (List.mem_of_getElem? (i := 18) rfl)
theorem kw_23_19 : (Cond.instanceMethod yX11_alert) ∈ wsL_law := kr_23 _ (List.mem_of_getElem? (i := 19) rfl)
theorem kw_23_20 : (Cond.selects RX11 yX11_alert yX11_alert) ∈ wsL_law := kr_23 _ (List.mem_of_getElem? (i := 20) rfl)
theorem kw_23_21 : (Cond.code yX11_alert cX11_alert 3 (some .int)) ∈ wsL_law := kr_23 _ (List.mem_of_getElem? (i := 21) rfl)
theorem kw_23_22 : (Cond.methodLink RX11 136 yX11_alerts) ∈ wsL_law := kr_23 _ (List.mem_of_getElem? (i := 22) rfl)
theorem kw_23_23 : (Cond.instanceMethod yX11_alerts) ∈ wsL_law := kr_23 _ (List.mem_of_getElem? (i := 23) rfl)
theorem kw_24_0 : (Cond.selects RX11 yX11_alerts yX11_alerts) ∈ wsL_law := kr_24 _ (List.mem_of_getElem? (i := 0) rfl)
theorem kw_24_1 : (Cond.code yX11_alerts cX11_alerts 6 (some .int)) ∈ wsL_law := kr_24 _ (List.mem_of_getElem? (i := 1) rfl)
theorem kw_24_2 : (Cond.methodLink RX11 99 yX11_foldsInto) ∈ wsL_law := kr_24 _ (List.mem_of_getElem? (i := 2) rfl)
theorem kw_24_3 : (Cond.instanceMethod yX11_foldsInto) ∈ wsL_law := kr_24 _ (List.mem_of_getElem? (i := 3) rfl)
theorem kw_24_4 : (Cond.selects RX11 yX11_foldsInto yX11_foldsInto) ∈ wsL_law := kr_24 _ (List.mem_of_getElem? (i := 4) rfl)
theorem kw_24_5 : (Cond.code yX11_foldsInto cX11_foldsInto 4 (some .int)) ∈ wsL_law := kr_24 _ (List.mem_of_getElem? (i := 5) rfl)
theorem kw_24_6 : (Cond.methodLink RX11 102 yX11_opens) ∈ wsL_law := kr_24 _ (List.mem_of_getElem? (i := 6) rfl)
theorem kw_24_7 : (Cond.instanceMethod yX11_opens) ∈ wsL_law := kr_24 _ (List.mem_of_getElem? (i := 7) rfl)
theorem kw_24_8 : (Cond.selects RX11 yX11_opens yX11_opens) ∈ wsL_law := kr_24 _ (List.mem_of_getElem? (i := 8) rfl)
theorem kw_24_9 : (Cond.code yX11_opens cX11_opens 6 (some .int)) ∈ wsL_law := kr_24 _ (List.mem_of_getElem? (i := 9) rfl)
theorem kw_24_10 : (Cond.methodLink RX11 96 yX11_lowestFree) ∈ wsL_law := kr_24 _ (List.mem_of_getElem? (i := 10) rfl)
theorem kw_24_11 : (Cond.instanceMethod yX11_lowestFree) ∈ wsL_law := kr_24 _ (List.mem_of_getElem? (i := 11) rfl)
theorem kw_24_12 : (Cond.selects RX11 yX11_lowestFree yX11_lowestFree) ∈ wsL_law := kr_24 _ (List.mem_of_getElem? (i := 12) rfl)
theorem kw_24_13 : (Cond.code yX11_lowestFree cX11_lowestFree 3 (some .int)) ∈ wsL_law := kr_24 _ (List.mem_of_getElem? (i := 13) rfl)
theorem kw_24_14 : (Cond.methodLink RX11 66 yX11_pages) ∈ wsL_law := kr_24 _ (List.mem_of_getElem? (i := 14) rfl)
theorem kw_24_15 : (Cond.instanceMethod yX11_pages) ∈ wsL_law := kr_24 _ (List.mem_of_getElem? (i := 15) rfl)
theorem kw_24_16 : (Cond.selects RX11 yX11_pages yX11_pages) ∈ wsL_law := kr_24 _ (List.mem_of_getElem? (i := 16) rfl)
theorem kw_24_17 : (Cond.code yX11_pages cX11_pages 5 none) ∈ wsL_law := kr_24 _ (List.mem_of_getElem? (i := 17) rfl)
theorem kw_24_18 : (Cond.methodLink RX11 57 yX11_personAt) ∈ wsL_law := kr_24 _ (List.mem_of_getElem? (i := 18) rfl)
theorem kw_24_19 : (Cond.instanceMethod yX11_personAt) ∈ wsL_law := kr_24 _ (List.mem_of_getElem? (i := 19) rfl)
theorem kw_24_20 : (Cond.selects RX11 yX11_personAt yX11_personAt) ∈ wsL_law := kr_24 _ (List.mem_of_getElem? (i := 20) rfl)
theorem kw_24_21 : (Cond.code yX11_personAt cX11_personAt 7 (some .int)) ∈ wsL_law := kr_24 _ (List.mem_of_getElem? (i := 21) rfl)
theorem kw_24_22 : (Cond.methodLink RX11 51 yX11_regionAt) ∈ wsL_law := kr_24 _ (List.mem_of_getElem? (i := 22) rfl)
theorem kw_24_23 : (Cond.instanceMethod yX11_regionAt) ∈ wsL_law := kr_24 _ (List.mem_of_getElem? (i := 23) rfl)
theorem kw_25_0 : (Cond.selects RX11 yX11_regionAt yX11_regionAt) ∈ wsL_law := kr_25 _ (List.mem_of_getElem? (i := 0) rfl)
theorem kw_25_1 : (Cond.code yX11_regionAt cX11_regionAt 4 (some .int)) ∈ wsL_law := kr_25 _ (List.mem_of_getElem? (i := 1) rfl)
theorem kw_25_2 : (Cond.methodLink RX11 47 yX11_covers) ∈ wsL_law := kr_25 _ (List.mem_of_getElem? (i := 2) rfl)
theorem kw_25_3 : (Cond.instanceMethod yX11_covers) ∈ wsL_law := kr_25 _ (List.mem_of_getElem? (i := 3) rfl)
theorem kw_25_4 : (Cond.selects RX11 yX11_covers yX11_covers) ∈ wsL_law := kr_25 _ (List.mem_of_getElem? (i := 4) rfl)
theorem kw_25_5 : (Cond.code yX11_covers cX11_covers 3 (some .boolean)) ∈ wsL_law := kr_25 _ (List.mem_of_getElem? (i := 5) rfl)
theorem kw_25_6 : (Cond.methodLink RX11 63 yX11_isException) ∈ wsL_law := kr_25 _ (List.mem_of_getElem? (i := 6) rfl)
theorem kw_25_7 : (Cond.instanceMethod yX11_isException) ∈ wsL_law := kr_25 _ (List.mem_of_getElem? (i := 7) rfl)
theorem kw_25_8 : (Cond.selects RX11 yX11_isException yX11_isException) ∈ wsL_law := kr_25 _ (List.mem_of_getElem? (i := 8) rfl)
theorem kw_25_9 : (Cond.code yX11_isException cX11_isException 3 (some .boolean)) ∈ wsL_law := kr_25 _ (List.mem_of_getElem? (i := 9) rfl)
theorem kw_25_10 : (Cond.methodLink RL 56 yX10_acknowledge) ∈ wsL_law := kr_25 _ (List.mem_of_getElem? (i := 10) rfl)
theorem kw_25_11 : (Cond.instanceMethod yX10_acknowledge) ∈ wsL_law := kr_25 _ (List.mem_of_getElem? (i := 11) rfl)
theorem kw_25_12 : (Cond.selects RX10 yX10_acknowledge yX10_acknowledge) ∈ wsL_law := kr_25 _ (List.mem_of_getElem? (i := 12) rfl)
theorem kw_25_13 : (Cond.code yX10_acknowledge cX10_acknowledge 2 (some .int)) ∈ wsL_law := kr_25 _ (List.mem_of_getElem? (i := 13) rfl)
theorem kw_25_14 : (Cond.methodLink RX10 128 yX1_takeAcknowledgement) ∈ wsL_law := kr_25 _ (List.mem_of_getElem? (i := 14) rfl)
theorem kw_25_15 : (Cond.instanceMethod yX1_takeAcknowledgement) ∈ wsL_law := kr_25 _ (List.mem_of_getElem? (i := 15) rfl)
theorem kw_25_16 : (Cond.selects RX1 yX1_takeAcknowledgement yX1_takeAcknowledgement) ∈ wsL_law := kr_25 _ (List.mem_of_getElem? (i := 16) rfl)
theorem kw_25_17 : (Cond.code yX1_takeAcknowledgement cX1_takeAcknowledgement 4 (some .int)) ∈ wsL_law := kr_25 _ (List.mem_of_getElem? (i := 17) rfl)
theorem kw_25_18 : (Cond.fieldLink RX1 138 "PageRotas$Totals" "acknowledgements" "I") ∈ wsL_law := kr_25 _ (List.mem_of_getElem? (i := 18) rfl)
theorem kw_25_19 : (Cond.fieldLink RX1 141 "PageRotas$Totals" "minutesToAcknowledge" "I") ∈ wsL_law := kr_25 _ (List.mem_of_getElem? (i := 19) rfl)
theorem kw_25_20 : (Cond.methodLink RX1 135 yX1_isOpen) ∈ wsL_law := kr_25 _ (List.mem_of_getElem? (i := 20) rfl)
theorem kw_25_21 : (Cond.instanceMethod yX1_isOpen) ∈ wsL_law := kr_25 _ (List.mem_of_getElem? (i := 21) rfl)
theorem kw_25_22 : (Cond.selects RX1 yX1_isOpen yX1_isOpen) ∈ wsL_law := kr_25 _ (List.mem_of_getElem? (i := 22) rfl)
theorem kw_25_23 : (Cond.code yX1_isOpen cX1_isOpen 2 (some .boolean)) ∈ wsL_law := kr_25 _ (List.mem_of_getElem? (i := 23) rfl)
theorem kw_26_0 : (Cond.methodLink RL 60 yX11_acknowledge) ∈ wsL_law := kr_26 _ (List.mem_of_getElem? (i := 0) rfl)
theorem kw_26_1 : (Cond.instanceMethod yX11_acknowledge) ∈ wsL_law := kr_26 _ (List.mem_of_getElem? (i := 1) rfl)
theorem kw_26_2 : (Cond.selects RX11 yX11_acknowledge yX11_acknowledge) ∈ wsL_law := kr_26 _ (List.mem_of_getElem? (i := 2) rfl)
theorem kw_26_3 : (Cond.code yX11_acknowledge cX11_acknowledge 2 (some .int)) ∈ wsL_law := kr_26 _ (List.mem_of_getElem? (i := 3) rfl)
theorem kw_26_4 : (Cond.methodLink RX11 139 yX11_acknowledges) ∈ wsL_law := kr_26 _ (List.mem_of_getElem? (i := 4) rfl)
theorem kw_26_5 : (Cond.instanceMethod yX11_acknowledges) ∈ wsL_law := kr_26 _ (List.mem_of_getElem? (i := 5) rfl)
theorem kw_26_6 : (Cond.selects RX11 yX11_acknowledges yX11_acknowledges) ∈ wsL_law := kr_26 _ (List.mem_of_getElem? (i := 6) rfl)
theorem kw_26_7 : (Cond.code yX11_acknowledges cX11_acknowledges 4 (some .int)) ∈ wsL_law := kr_26 _ (List.mem_of_getElem? (i := 7) rfl)
theorem kw_26_8 : (Cond.methodLink RL 61 yX10_resolve) ∈ wsL_law := kr_26 _ (List.mem_of_getElem? (i := 8) rfl)
theorem kw_26_9 : (Cond.instanceMethod yX10_resolve) ∈ wsL_law := kr_26 _ (List.mem_of_getElem? (i := 9) rfl)
theorem kw_26_10 : (Cond.selects RX10 yX10_resolve yX10_resolve) ∈ wsL_law := kr_26 _ (List.mem_of_getElem? (i := 10) rfl)
theorem kw_26_11 : (Cond.code yX10_resolve cX10_resolve 2 (some .int)) ∈ wsL_law := kr_26 _ (List.mem_of_getElem? (i := 11) rfl)
theorem kw_26_12 : (Cond.methodLink RX10 131 yX1_close) ∈ wsL_law := kr_26 _ (List.mem_of_getElem? (i := 12) rfl)
theorem kw_26_13 : (Cond.instanceMethod yX1_close) ∈ wsL_law := kr_26 _ (List.mem_of_getElem? (i := 13) rfl)
theorem kw_26_14 : (Cond.selects RX1 yX1_close yX1_close) ∈ wsL_law := kr_26 _ (List.mem_of_getElem? (i := 14) rfl)
theorem kw_26_15 : (Cond.code yX1_close cX1_close 3 (some .int)) ∈ wsL_law := kr_26 _ (List.mem_of_getElem? (i := 15) rfl)
theorem kw_26_16 : (Cond.fieldLink RX1 144 "PageRotas$Totals" "resolved" "I") ∈ wsL_law := kr_26 _ (List.mem_of_getElem? (i := 16) rfl)
theorem kw_26_17 : (Cond.fieldLink RX1 147 "PageRotas$Person" "resolved" "I") ∈ wsL_law := kr_26 _ (List.mem_of_getElem? (i := 17) rfl)
theorem kw_26_18 : (Cond.fieldLink RX1 148 "PageRotas$Incident" "firstAlert" "I") ∈ wsL_law := kr_26 _ (List.mem_of_getElem? (i := 18) rfl)
theorem kw_26_19 : (Cond.methodLink RL 64 yX11_resolve) ∈ wsL_law := kr_26 _ (List.mem_of_getElem? (i := 19) rfl)
theorem kw_26_20 : (Cond.instanceMethod yX11_resolve) ∈ wsL_law := kr_26 _ (List.mem_of_getElem? (i := 20) rfl)
theorem kw_26_21 : (Cond.selects RX11 yX11_resolve yX11_resolve) ∈ wsL_law := kr_26 _ (List.mem_of_getElem? (i := 21) rfl)
theorem kw_26_22 : (Cond.code yX11_resolve cX11_resolve 2 (some .int)) ∈ wsL_law := kr_26 _ (List.mem_of_getElem? (i := 22) rfl)
theorem kw_26_23 : (Cond.methodLink RX11 142 yX11_resolves) ∈ wsL_law := kr_26 _ (List.mem_of_getElem? (i := 23) rfl)
theorem kw_27_0 : (Cond.instanceMethod yX11_resolves) ∈ wsL_law := kr_27 _ (List.mem_of_getElem? (i := 0) rfl)
theorem kw_27_1 : (Cond.selects RX11 yX11_resolves yX11_resolves) ∈ wsL_law := kr_27 _ (List.mem_of_getElem? (i := 1) rfl)
theorem kw_27_2 : (Cond.code yX11_resolves cX11_resolves 4 (some .int)) ∈ wsL_law := kr_27 _ (List.mem_of_getElem? (i := 2) rfl)
theorem kw_27_3 : (Cond.methodLink RL 65 yX10_pass) ∈ wsL_law := kr_27 _ (List.mem_of_getElem? (i := 3) rfl)
theorem kw_27_4 : (Cond.instanceMethod yX10_pass) ∈ wsL_law := kr_27 _ (List.mem_of_getElem? (i := 4) rfl)
theorem kw_27_5 : (Cond.selects RX10 yX10_pass yX10_pass) ∈ wsL_law := kr_27 _ (List.mem_of_getElem? (i := 5) rfl)
theorem kw_27_6 : (Cond.code yX10_pass cX10_pass 2 (some .int)) ∈ wsL_law := kr_27 _ (List.mem_of_getElem? (i := 6) rfl)
theorem kw_27_7 : (Cond.methodLink RX10 134 yX1_letPass) ∈ wsL_law := kr_27 _ (List.mem_of_getElem? (i := 7) rfl)
theorem kw_27_8 : (Cond.instanceMethod yX1_letPass) ∈ wsL_law := kr_27 _ (List.mem_of_getElem? (i := 8) rfl)
theorem kw_27_9 : (Cond.selects RX1 yX1_letPass yX1_letPass) ∈ wsL_law := kr_27 _ (List.mem_of_getElem? (i := 9) rfl)
theorem kw_27_10 : (Cond.code yX1_letPass cX1_letPass 6 (some .int)) ∈ wsL_law := kr_27 _ (List.mem_of_getElem? (i := 10) rfl)
theorem kw_27_11 : (Cond.methodLink RX1 151 yX1_age) ∈ wsL_law := kr_27 _ (List.mem_of_getElem? (i := 11) rfl)
theorem kw_27_12 : (Cond.instanceMethod yX1_age) ∈ wsL_law := kr_27 _ (List.mem_of_getElem? (i := 12) rfl)
theorem kw_27_13 : (Cond.selects RX1 yX1_age yX1_age) ∈ wsL_law := kr_27 _ (List.mem_of_getElem? (i := 13) rfl)
theorem kw_27_14 : (Cond.code yX1_age cX1_age 3 (some .boolean)) ∈ wsL_law := kr_27 _ (List.mem_of_getElem? (i := 14) rfl)
theorem kw_27_15 : (Cond.fieldLink RX1 154 "PageRotas$Totals" "open" "I") ∈ wsL_law := kr_27 _ (List.mem_of_getElem? (i := 15) rfl)
theorem kw_27_16 : (Cond.fieldLink RX1 156 "PageRotas$Incident" "unowned" "I") ∈ wsL_law := kr_27 _ (List.mem_of_getElem? (i := 16) rfl)
theorem kw_27_17 : (Cond.fieldLink RX1 159 "PageRotas$Totals" "unowned" "I") ∈ wsL_law := kr_27 _ (List.mem_of_getElem? (i := 17) rfl)
theorem kw_27_18 : (Cond.fieldLink RX1 160 "PageRotas$Incident" "handOffs" "I") ∈ wsL_law := kr_27 _ (List.mem_of_getElem? (i := 18) rfl)
theorem kw_27_19 : (Cond.fieldLink RX1 163 "PageRotas$Totals" "handOffs" "I") ∈ wsL_law := kr_27 _ (List.mem_of_getElem? (i := 19) rfl)
theorem kw_27_20 : (Cond.fieldLink RX1 164 "PageRotas$Incident" "escalations" "I") ∈ wsL_law := kr_27 _ (List.mem_of_getElem? (i := 20) rfl)
theorem kw_27_21 : (Cond.fieldLink RX1 167 "PageRotas$Totals" "escalations" "I") ∈ wsL_law := kr_27 _ (List.mem_of_getElem? (i := 21) rfl)
theorem kw_27_22 : (Cond.methodLink RL 68 yX11_pass) ∈ wsL_law := kr_27 _ (List.mem_of_getElem? (i := 22) rfl)
theorem kw_27_23 : (Cond.instanceMethod yX11_pass) ∈ wsL_law := kr_27 _ (List.mem_of_getElem? (i := 23) rfl)
theorem kw_28_0 : (Cond.selects RX11 yX11_pass yX11_pass) ∈ wsL_law := kr_28 _ (List.mem_of_getElem? (i := 0) rfl)
theorem kw_28_1 : (Cond.code yX11_pass cX11_pass 2 (some .int)) ∈ wsL_law := kr_28 _ (List.mem_of_getElem? (i := 1) rfl)
theorem kw_28_2 : (Cond.methodLink RX11 145 yX11_passes) ∈ wsL_law := kr_28 _ (List.mem_of_getElem? (i := 2) rfl)
theorem kw_28_3 : (Cond.instanceMethod yX11_passes) ∈ wsL_law := kr_28 _ (List.mem_of_getElem? (i := 3) rfl)
theorem kw_28_4 : (Cond.selects RX11 yX11_passes yX11_passes) ∈ wsL_law := kr_28 _ (List.mem_of_getElem? (i := 4) rfl)
theorem kw_28_5 : (Cond.code yX11_passes cX11_passes 4 (some .int)) ∈ wsL_law := kr_28 _ (List.mem_of_getElem? (i := 5) rfl)
theorem kw_28_6 : (Cond.methodLink RX11 105 yX11_minute) ∈ wsL_law := kr_28 _ (List.mem_of_getElem? (i := 6) rfl)
theorem kw_28_7 : (Cond.instanceMethod yX11_minute) ∈ wsL_law := kr_28 _ (List.mem_of_getElem? (i := 7) rfl)
theorem kw_28_8 : (Cond.selects RX11 yX11_minute yX11_minute) ∈ wsL_law := kr_28 _ (List.mem_of_getElem? (i := 8) rfl)
theorem kw_28_9 : (Cond.code yX11_minute cX11_minute 2 none) ∈ wsL_law := kr_28 _ (List.mem_of_getElem? (i := 9) rfl)
theorem kw_28_10 : (Cond.methodLink RX11 74 yX11_minuteOf) ∈ wsL_law := kr_28 _ (List.mem_of_getElem? (i := 10) rfl)
theorem kw_28_11 : (Cond.instanceMethod yX11_minuteOf) ∈ wsL_law := kr_28 _ (List.mem_of_getElem? (i := 11) rfl)
theorem kw_28_12 : (Cond.selects RX11 yX11_minuteOf yX11_minuteOf) ∈ wsL_law := kr_28 _ (List.mem_of_getElem? (i := 12) rfl)
theorem kw_28_13 : (Cond.code yX11_minuteOf cX11_minuteOf 5 none) ∈ wsL_law := kr_28 _ (List.mem_of_getElem? (i := 13) rfl)
theorem kw_28_14 : (Cond.methodLink RL 69 yX10_set) ∈ wsL_law := kr_28 _ (List.mem_of_getElem? (i := 14) rfl)
theorem kw_28_15 : (Cond.instanceMethod yX10_set) ∈ wsL_law := kr_28 _ (List.mem_of_getElem? (i := 15) rfl)
theorem kw_28_16 : (Cond.selects RX10 yX10_set yX10_set) ∈ wsL_law := kr_28 _ (List.mem_of_getElem? (i := 16) rfl)
theorem kw_28_17 : (Cond.code yX10_set cX10_set 3 (some .int)) ∈ wsL_law := kr_28 _ (List.mem_of_getElem? (i := 17) rfl)
theorem kw_28_18 : (Cond.methodLink RX10 137 yX1_putSetting) ∈ wsL_law := kr_28 _ (List.mem_of_getElem? (i := 18) rfl)
theorem kw_28_19 : (Cond.instanceMethod yX1_putSetting) ∈ wsL_law := kr_28 _ (List.mem_of_getElem? (i := 19) rfl)
theorem kw_28_20 : (Cond.selects RX1 yX1_putSetting yX1_putSetting) ∈ wsL_law := kr_28 _ (List.mem_of_getElem? (i := 20) rfl)
theorem kw_28_21 : (Cond.code yX1_putSetting cX1_putSetting 4 (some .int)) ∈ wsL_law := kr_28 _ (List.mem_of_getElem? (i := 21) rfl)
theorem kw_28_22 : (Cond.methodLink RL 72 yX11_set) ∈ wsL_law := kr_28 _ (List.mem_of_getElem? (i := 22) rfl)
theorem kw_28_23 : (Cond.instanceMethod yX11_set) ∈ wsL_law := kr_28 _ (List.mem_of_getElem? (i := 23) rfl)
theorem kw_29_0 : (Cond.selects RX11 yX11_set yX11_set) ∈ wsL_law := kr_29 _ (List.mem_of_getElem? (i := 0) rfl)
theorem kw_29_1 : (Cond.code yX11_set cX11_set 3 (some .int)) ∈ wsL_law := kr_29 _ (List.mem_of_getElem? (i := 1) rfl)
theorem kw_29_2 : (Cond.methodLink RX11 148 yX11_sets) ∈ wsL_law := kr_29 _ (List.mem_of_getElem? (i := 2) rfl)
theorem kw_29_3 : (Cond.instanceMethod yX11_sets) ∈ wsL_law := kr_29 _ (List.mem_of_getElem? (i := 3) rfl)
theorem kw_29_4 : (Cond.selects RX11 yX11_sets yX11_sets) ∈ wsL_law := kr_29 _ (List.mem_of_getElem? (i := 4) rfl)
theorem kw_29_5 : (Cond.code yX11_sets cX11_sets 4 (some .int)) ∈ wsL_law := kr_29 _ (List.mem_of_getElem? (i := 5) rfl)
theorem kw_29_6 : (Cond.methodLink RL 73 yX10_incidentOf) ∈ wsL_law := kr_29 _ (List.mem_of_getElem? (i := 6) rfl)
theorem kw_29_7 : (Cond.instanceMethod yX10_incidentOf) ∈ wsL_law := kr_29 _ (List.mem_of_getElem? (i := 7) rfl)
theorem kw_29_8 : (Cond.selects RX10 yX10_incidentOf yX10_incidentOf) ∈ wsL_law := kr_29 _ (List.mem_of_getElem? (i := 8) rfl)
theorem kw_29_9 : (Cond.code yX10_incidentOf cX10_incidentOf 4 (some .int)) ∈ wsL_law := kr_29 _ (List.mem_of_getElem? (i := 9) rfl)
theorem kw_29_10 : (Cond.fieldLink RX10 143 "PageRotas$House" "incidents" "[LPageRotas$Incident;") ∈ wsL_law := kr_29 _ (List.mem_of_getElem? (i := 10) rfl)
theorem kw_29_11 : (Cond.fieldLink RX10 147 "PageRotas$Incident" "cause" "I") ∈ wsL_law := kr_29 _ (List.mem_of_getElem? (i := 11) rfl)
theorem kw_29_12 : (Cond.fieldLink RX10 152 "PageRotas$Incident" "severity" "I") ∈ wsL_law := kr_29 _ (List.mem_of_getElem? (i := 12) rfl)
theorem kw_29_13 : (Cond.fieldLink RX10 155 "PageRotas$Incident" "level" "I") ∈ wsL_law := kr_29 _ (List.mem_of_getElem? (i := 13) rfl)
theorem kw_29_14 : (Cond.fieldLink RX10 158 "PageRotas$Incident" "owner" "I") ∈ wsL_law := kr_29 _ (List.mem_of_getElem? (i := 14) rfl)
theorem kw_29_15 : (Cond.fieldLink RX10 161 "PageRotas$Incident" "acknowledged" "Z") ∈ wsL_law := kr_29 _ (List.mem_of_getElem? (i := 15) rfl)
theorem kw_29_16 : (Cond.fieldLink RX10 165 "PageRotas$Incident" "alerts" "I") ∈ wsL_law := kr_29 _ (List.mem_of_getElem? (i := 16) rfl)
theorem kw_29_17 : (Cond.fieldLink RX10 168 "PageRotas$Incident" "firstAlert" "I") ∈ wsL_law := kr_29 _ (List.mem_of_getElem? (i := 17) rfl)
theorem kw_29_18 : (Cond.fieldLink RX10 171 "PageRotas$Incident" "latestAlert" "I") ∈ wsL_law := kr_29 _ (List.mem_of_getElem? (i := 18) rfl)
theorem kw_29_19 : (Cond.fieldLink RX10 174 "PageRotas$Incident" "unowned" "I") ∈ wsL_law := kr_29 _ (List.mem_of_getElem? (i := 19) rfl)
theorem kw_29_20 : (Cond.fieldLink RX10 177 "PageRotas$Incident" "pagedAt" "I") ∈ wsL_law := kr_29 _ (List.mem_of_getElem? (i := 20) rfl)
theorem kw_29_21 : (Cond.fieldLink RX10 180 "PageRotas$Incident" "handOffs" "I") ∈ wsL_law := kr_29 _ (List.mem_of_getElem? (i := 21) rfl)
theorem kw_29_22 : (Cond.fieldLink RX10 183 "PageRotas$Incident" "escalations" "I") ∈ wsL_law := kr_29 _ (List.mem_of_getElem? (i := 22) rfl)
theorem kw_29_23 : (Cond.methodLink RX10 140 yX1_isOpen) ∈ wsL_law := kr_29 _ (List.mem_of_getElem? (i := 23) rfl)
theorem kw_30_0 : (Cond.methodLink RL 76 yX11_incidentOf) ∈ wsL_law := kr_30 _ (List.mem_of_getElem? (i := 0) rfl)
theorem kw_30_1 : (Cond.instanceMethod yX11_incidentOf) ∈ wsL_law := kr_30 _ (List.mem_of_getElem? (i := 1) rfl)
theorem kw_30_2 : (Cond.selects RX11 yX11_incidentOf yX11_incidentOf) ∈ wsL_law := kr_30 _ (List.mem_of_getElem? (i := 2) rfl)
theorem kw_30_3 : (Cond.code yX11_incidentOf cX11_incidentOf 4 (some .int)) ∈ wsL_law := kr_30 _ (List.mem_of_getElem? (i := 3) rfl)
theorem kw_30_4 : (Cond.methodLink RL 77 yX10_count) ∈ wsL_law := kr_30 _ (List.mem_of_getElem? (i := 4) rfl)
theorem kw_30_5 : (Cond.instanceMethod yX10_count) ∈ wsL_law := kr_30 _ (List.mem_of_getElem? (i := 5) rfl)
theorem kw_30_6 : (Cond.selects RX10 yX10_count yX10_count) ∈ wsL_law := kr_30 _ (List.mem_of_getElem? (i := 6) rfl)
theorem kw_30_7 : (Cond.code yX10_count cX10_count 2 (some .int)) ∈ wsL_law := kr_30 _ (List.mem_of_getElem? (i := 7) rfl)
theorem kw_30_8 : (Cond.fieldLink RX10 186 "PageRotas$Rotas" "peopleCount" "I") ∈ wsL_law := kr_30 _ (List.mem_of_getElem? (i := 8) rfl)
theorem kw_30_9 : (Cond.fieldLink RX10 189 "PageRotas$Rotas" "regionCount" "I") ∈ wsL_law := kr_30 _ (List.mem_of_getElem? (i := 9) rfl)
theorem kw_30_10 : (Cond.fieldLink RX10 201 "PageRotas$History" "size" "I") ∈ wsL_law := kr_30 _ (List.mem_of_getElem? (i := 10) rfl)
theorem kw_30_11 : (Cond.fieldLink RX10 204 "PageRotas$Script" "length" "I") ∈ wsL_law := kr_30 _ (List.mem_of_getElem? (i := 11) rfl)
theorem kw_30_12 : (Cond.fieldLink RX10 207 "PageRotas$House" "escalateAfter" "I") ∈ wsL_law := kr_30 _ (List.mem_of_getElem? (i := 12) rfl)
theorem kw_30_13 : (Cond.fieldLink RX10 210 "PageRotas$House" "foldWithin" "I") ∈ wsL_law := kr_30 _ (List.mem_of_getElem? (i := 13) rfl)
theorem kw_30_14 : (Cond.fieldLink RX10 213 "PageRotas$House" "totals" "LPageRotas$Totals;") ∈ wsL_law := kr_30 _ (List.mem_of_getElem? (i := 14) rfl)
theorem kw_30_15 : (Cond.methodLink RX10 192 yX1_openIncidents) ∈ wsL_law := kr_30 _ (List.mem_of_getElem? (i := 15) rfl)
theorem kw_30_16 : (Cond.instanceMethod yX1_openIncidents) ∈ wsL_law := kr_30 _ (List.mem_of_getElem? (i := 16) rfl)
theorem kw_30_17 : (Cond.selects RX1 yX1_openIncidents yX1_openIncidents) ∈ wsL_law := kr_30 _ (List.mem_of_getElem? (i := 17) rfl)
theorem kw_30_18 : (Cond.code yX1_openIncidents cX1_openIncidents 3 (some .int)) ∈ wsL_law := kr_30 _ (List.mem_of_getElem? (i := 18) rfl)
theorem kw_30_19 : (Cond.methodLink RX10 195 yX1_acknowledgedIncidents) ∈ wsL_law := kr_30 _ (List.mem_of_getElem? (i := 19) rfl)
theorem kw_30_20 : (Cond.instanceMethod yX1_acknowledgedIncidents) ∈ wsL_law := kr_30 _ (List.mem_of_getElem? (i := 20) rfl)
theorem kw_30_21 : (Cond.selects RX1 yX1_acknowledgedIncidents yX1_acknowledgedIncidents) ∈ wsL_law := kr_30 _ (List.mem_of_getElem? (i := 21) rfl)
theorem kw_30_22 : (Cond.code yX1_acknowledgedIncidents cX1_acknowledgedIncidents 3 (some .int)) ∈ wsL_law := kr_30 _ (List.mem_of_getElem? (i := 22) rfl)
theorem kw_30_23 : (Cond.methodLink RX10 198 yX5_standInsAt) ∈ wsL_law := kr_30 _ (List.mem_of_getElem? (i := 23) rfl)
theorem kw_31_0 : (Cond.instanceMethod yX5_standInsAt) ∈ wsL_law := kr_31 _ (List.mem_of_getElem? (i := 0) rfl)
theorem kw_31_1 : (Cond.selects RX5 yX5_standInsAt yX5_standInsAt) ∈ wsL_law := kr_31 _ (List.mem_of_getElem? (i := 1) rfl)
theorem kw_31_2 : (Cond.code yX5_standInsAt cX5_standInsAt 4 (some .int)) ∈ wsL_law := kr_31 _ (List.mem_of_getElem? (i := 2) rfl)
theorem kw_31_3 : (Cond.methodLink RX10 217 yX9_numbered) ∈ wsL_law := kr_31 _ (List.mem_of_getElem? (i := 3) rfl)
theorem kw_31_4 : (Cond.instanceMethod yX9_numbered) ∈ wsL_law := kr_31 _ (List.mem_of_getElem? (i := 4) rfl)
theorem kw_31_5 : (Cond.selects RX9 yX9_numbered yX9_numbered) ∈ wsL_law := kr_31 _ (List.mem_of_getElem? (i := 5) rfl)
theorem kw_31_6 : (Cond.code yX9_numbered cX9_numbered 2 (some .int)) ∈ wsL_law := kr_31 _ (List.mem_of_getElem? (i := 6) rfl)
theorem kw_31_7 : (Cond.methodLink RL 80 yX11_count) ∈ wsL_law := kr_31 _ (List.mem_of_getElem? (i := 7) rfl)
theorem kw_31_8 : (Cond.instanceMethod yX11_count) ∈ wsL_law := kr_31 _ (List.mem_of_getElem? (i := 8) rfl)
theorem kw_31_9 : (Cond.selects RX11 yX11_count yX11_count) ∈ wsL_law := kr_31 _ (List.mem_of_getElem? (i := 9) rfl)
theorem kw_31_10 : (Cond.code yX11_count cX11_count 2 (some .int)) ∈ wsL_law := kr_31 _ (List.mem_of_getElem? (i := 10) rfl)
theorem kw_31_11 : (Cond.fieldLink RX11 161 "PageRotasModel" "length" "I") ∈ wsL_law := kr_31 _ (List.mem_of_getElem? (i := 11) rfl)
theorem kw_31_12 : (Cond.methodLink RX11 158 yX11_openOnes) ∈ wsL_law := kr_31 _ (List.mem_of_getElem? (i := 12) rfl)
theorem kw_31_13 : (Cond.instanceMethod yX11_openOnes) ∈ wsL_law := kr_31 _ (List.mem_of_getElem? (i := 13) rfl)
theorem kw_31_14 : (Cond.selects RX11 yX11_openOnes yX11_openOnes) ∈ wsL_law := kr_31 _ (List.mem_of_getElem? (i := 14) rfl)
theorem kw_31_15 : (Cond.code yX11_openOnes cX11_openOnes 5 (some .int)) ∈ wsL_law := kr_31 _ (List.mem_of_getElem? (i := 15) rfl)
theorem kw_31_16 : (Cond.methodLink RL 81 yX10_onCall) ∈ wsL_law := kr_31 _ (List.mem_of_getElem? (i := 16) rfl)
theorem kw_31_17 : (Cond.instanceMethod yX10_onCall) ∈ wsL_law := kr_31 _ (List.mem_of_getElem? (i := 17) rfl)
theorem kw_31_18 : (Cond.selects RX10 yX10_onCall yX10_onCall) ∈ wsL_law := kr_31 _ (List.mem_of_getElem? (i := 18) rfl)
theorem kw_31_19 : (Cond.code yX10_onCall cX10_onCall 6 (some .int)) ∈ wsL_law := kr_31 _ (List.mem_of_getElem? (i := 19) rfl)
theorem kw_31_20 : (Cond.methodLink RX10 222 yX5_regionAt) ∈ wsL_law := kr_31 _ (List.mem_of_getElem? (i := 20) rfl)
theorem kw_31_21 : (Cond.methodLink RX10 225 yX5_personAt) ∈ wsL_law := kr_31 _ (List.mem_of_getElem? (i := 21) rfl)
theorem kw_31_22 : (Cond.methodLink RL 84 yX11_onCall) ∈ wsL_law := kr_31 _ (List.mem_of_getElem? (i := 22) rfl)
theorem kw_31_23 : (Cond.instanceMethod yX11_onCall) ∈ wsL_law := kr_31 _ (List.mem_of_getElem? (i := 23) rfl)
theorem kw_32_0 : (Cond.selects RX11 yX11_onCall yX11_onCall) ∈ wsL_law := kr_32 _ (List.mem_of_getElem? (i := 0) rfl)
theorem kw_32_1 : (Cond.code yX11_onCall cX11_onCall 5 (some .int)) ∈ wsL_law := kr_32 _ (List.mem_of_getElem? (i := 1) rfl)
theorem kw_32_2 : (Cond.methodLink RL 85 yX10_uncovered) ∈ wsL_law := kr_32 _ (List.mem_of_getElem? (i := 2) rfl)
theorem kw_32_3 : (Cond.instanceMethod yX10_uncovered) ∈ wsL_law := kr_32 _ (List.mem_of_getElem? (i := 3) rfl)
theorem kw_32_4 : (Cond.selects RX10 yX10_uncovered yX10_uncovered) ∈ wsL_law := kr_32 _ (List.mem_of_getElem? (i := 4) rfl)
theorem kw_32_5 : (Cond.code yX10_uncovered cX10_uncovered 3 (some .int)) ∈ wsL_law := kr_32 _ (List.mem_of_getElem? (i := 5) rfl)
theorem kw_32_6 : (Cond.methodLink RL 88 yX11_uncovered) ∈ wsL_law := kr_32 _ (List.mem_of_getElem? (i := 6) rfl)
theorem kw_32_7 : (Cond.instanceMethod yX11_uncovered) ∈ wsL_law := kr_32 _ (List.mem_of_getElem? (i := 7) rfl)
theorem kw_32_8 : (Cond.selects RX11 yX11_uncovered yX11_uncovered) ∈ wsL_law := kr_32 _ (List.mem_of_getElem? (i := 8) rfl)
theorem kw_32_9 : (Cond.code yX11_uncovered cX11_uncovered 3 (some .int)) ∈ wsL_law := kr_32 _ (List.mem_of_getElem? (i := 9) rfl)
theorem kw_32_10 : (Cond.methodLink RL 89 yX10_later) ∈ wsL_law := kr_32 _ (List.mem_of_getElem? (i := 10) rfl)
theorem kw_32_11 : (Cond.instanceMethod yX10_later) ∈ wsL_law := kr_32 _ (List.mem_of_getElem? (i := 11) rfl)
theorem kw_32_12 : (Cond.selects RX10 yX10_later yX10_later) ∈ wsL_law := kr_32 _ (List.mem_of_getElem? (i := 12) rfl)
theorem kw_32_13 : (Cond.code yX10_later cX10_later 5 (some .int)) ∈ wsL_law := kr_32 _ (List.mem_of_getElem? (i := 13) rfl)
theorem kw_32_14 : (Cond.methodLink RX10 228 yX1_copyFrom) ∈ wsL_law := kr_32 _ (List.mem_of_getElem? (i := 14) rfl)
theorem kw_32_15 : (Cond.methodLink RX10 231 yX1_follow) ∈ wsL_law := kr_32 _ (List.mem_of_getElem? (i := 15) rfl)
theorem kw_32_16 : (Cond.instanceMethod yX1_follow) ∈ wsL_law := kr_32 _ (List.mem_of_getElem? (i := 16) rfl)
theorem kw_32_17 : (Cond.selects RX1 yX1_follow yX1_follow) ∈ wsL_law := kr_32 _ (List.mem_of_getElem? (i := 17) rfl)
theorem kw_32_18 : (Cond.code yX1_follow cX1_follow 5 none) ∈ wsL_law := kr_32 _ (List.mem_of_getElem? (i := 18) rfl)
theorem kw_32_19 : (Cond.methodLink RL 92 yX11_later) ∈ wsL_law := kr_32 _ (List.mem_of_getElem? (i := 19) rfl)
theorem kw_32_20 : (Cond.instanceMethod yX11_later) ∈ wsL_law := kr_32 _ (List.mem_of_getElem? (i := 20) rfl)
theorem kw_32_21 : (Cond.selects RX11 yX11_later yX11_later) ∈ wsL_law := kr_32 _ (List.mem_of_getElem? (i := 21) rfl)
theorem kw_32_22 : (Cond.code yX11_later cX11_later 7 (some .int)) ∈ wsL_law := kr_32 _ (List.mem_of_getElem? (i := 22) rfl)
theorem kw_32_23 : (Cond.methodLink RL 93 yX10_acknowledgeBits) ∈ wsL_law := kr_32 _ (List.mem_of_getElem? (i := 23) rfl)
theorem kw_33_0 : (Cond.instanceMethod yX10_acknowledgeBits) ∈ wsL_law := kr_33 _ (List.mem_of_getElem? (i := 0) rfl)
theorem kw_33_1 : (Cond.selects RX10 yX10_acknowledgeBits yX10_acknowledgeBits) ∈ wsL_law := kr_33 _ (List.mem_of_getElem? (i := 1) rfl)
theorem kw_33_2 : (Cond.code yX10_acknowledgeBits cX10_acknowledgeBits 2 (some .int)) ∈ wsL_law := kr_33 _ (List.mem_of_getElem? (i := 2) rfl)
theorem kw_33_3 : (Cond.fieldLink RX10 235 "PageRotas$Totals" "acknowledgements" "I") ∈ wsL_law := kr_33 _ (List.mem_of_getElem? (i := 3) rfl)
theorem kw_33_4 : (Cond.fieldLink RX10 238 "PageRotas$Totals" "minutesToAcknowledge" "I") ∈ wsL_law := kr_33 _ (List.mem_of_getElem? (i := 4) rfl)
theorem kw_33_5 : (Cond.methodLink RX10 241 yX10_bitsOf) ∈ wsL_law := kr_33 _ (List.mem_of_getElem? (i := 5) rfl)
theorem kw_33_6 : (Cond.static yX10_bitsOf) ∈ wsL_law := kr_33 _ (List.mem_of_getElem? (i := 6) rfl)
theorem kw_33_7 : (Cond.code yX10_bitsOf cX10_bitsOf 3 (some .int)) ∈ wsL_law := kr_33 _ (List.mem_of_getElem? (i := 7) rfl)
theorem kw_33_8 : (Cond.constantFloat RX10 271 (1056964608)) ∈ wsL_law := kr_33 _ (List.mem_of_getElem? (i := 8) rfl)
theorem kw_33_9 : (Cond.constantFloat RX10 272 (1258291200)) ∈ wsL_law := kr_33 _ (List.mem_of_getElem? (i := 9) rfl)
theorem kw_33_10 : (Cond.methodLink RL 96 yX11_acknowledgeBits) ∈ wsL_law := kr_33 _ (List.mem_of_getElem? (i := 10) rfl)
theorem kw_33_11 : (Cond.instanceMethod yX11_acknowledgeBits) ∈ wsL_law := kr_33 _ (List.mem_of_getElem? (i := 11) rfl)
theorem kw_33_12 : (Cond.selects RX11 yX11_acknowledgeBits yX11_acknowledgeBits) ∈ wsL_law := kr_33 _ (List.mem_of_getElem? (i := 12) rfl)
theorem kw_33_13 : (Cond.code yX11_acknowledgeBits cX11_acknowledgeBits 3 (some .int)) ∈ wsL_law := kr_33 _ (List.mem_of_getElem? (i := 13) rfl)
theorem kw_33_14 : (Cond.methodLink RX11 164 yJxf58ca_floatToIntBits_5c35a) ∈ wsL_law := kr_33 _ (List.mem_of_getElem? (i := 14) rfl)
theorem kw_33_15 : (Cond.static yJxf58ca_floatToIntBits_5c35a) ∈ wsL_law := kr_33 _ (List.mem_of_getElem? (i := 15) rfl)
theorem kw_33_16 : (Cond.initialized RJxf58ca) ∈ wsL_law := kr_33 _ (List.mem_of_getElem? (i := 16) rfl)
theorem kw_33_17 : (Cond.code yJxf58ca_floatToIntBits_5c35a cJxf58ca_floatToIntBits_5c35a 1 (some .int)) ∈ wsL_law := kr_33 _ (List.mem_of_getElem? (i := 17) rfl)
theorem kw_33_18 : (Cond.methodLink RJxf58ca 74 ⟨"java/lang/Float", "floatToRawIntBits", "(F)I"⟩) ∈ wsL_law := kr_33 _ (List.mem_of_getElem? (i := 18) rfl)
theorem kw_33_19 : (Cond.native ⟨"java/lang/Float", "floatToRawIntBits", "(F)I"⟩) ∈ wsL_law := kr_33 _ (List.mem_of_getElem? (i := 19) rfl)
theorem kw_33_20 : (Cond.static ⟨"java/lang/Float", "floatToRawIntBits", "(F)I"⟩) ∈ wsL_law := kr_33 _ (List.mem_of_getElem? (i := 20) rfl)
theorem kw_33_21 : (Cond.initialized "java/lang/Float") ∈ wsL_law := kr_33 _ (List.mem_of_getElem? (i := 21) rfl)
theorem kw_33_22 : (Cond.constant RJxf58ca 77 (2143289344)) ∈ wsL_law := kr_33 _ (List.mem_of_getElem? (i := 22) rfl)
theorem kw_33_23 : (Cond.methodLink RJxf58ca 59 yJxf58ca_isNaN_12338) ∈ wsL_law := kr_33 _ (List.mem_of_getElem? (i := 23) rfl)
theorem kw_34_0 : (Cond.static yJxf58ca_isNaN_12338) ∈ wsL_law := kr_34 _ (List.mem_of_getElem? (i := 0) rfl)
theorem kw_34_1 : (Cond.code yJxf58ca_isNaN_12338 cJxf58ca_isNaN_12338 1 (some .boolean)) ∈ wsL_law := kr_34 _ (List.mem_of_getElem? (i := 1) rfl)
theorem kw_34_2 : (Cond.methodLink RL 97 yX10_unownedBits) ∈ wsL_law := kr_34 _ (List.mem_of_getElem? (i := 2) rfl)
theorem kw_34_3 : (Cond.instanceMethod yX10_unownedBits) ∈ wsL_law := kr_34 _ (List.mem_of_getElem? (i := 3) rfl)
theorem kw_34_4 : (Cond.selects RX10 yX10_unownedBits yX10_unownedBits) ∈ wsL_law := kr_34 _ (List.mem_of_getElem? (i := 4) rfl)
theorem kw_34_5 : (Cond.code yX10_unownedBits cX10_unownedBits 2 (some .int)) ∈ wsL_law := kr_34 _ (List.mem_of_getElem? (i := 5) rfl)
theorem kw_34_6 : (Cond.fieldLink RX10 245 "PageRotas$Totals" "open" "I") ∈ wsL_law := kr_34 _ (List.mem_of_getElem? (i := 6) rfl)
theorem kw_34_7 : (Cond.fieldLink RX10 248 "PageRotas$Totals" "unowned" "I") ∈ wsL_law := kr_34 _ (List.mem_of_getElem? (i := 7) rfl)
theorem kw_34_8 : (Cond.methodLink RL 100 yX11_unownedBits) ∈ wsL_law := kr_34 _ (List.mem_of_getElem? (i := 8) rfl)
theorem kw_34_9 : (Cond.instanceMethod yX11_unownedBits) ∈ wsL_law := kr_34 _ (List.mem_of_getElem? (i := 9) rfl)
theorem kw_34_10 : (Cond.selects RX11 yX11_unownedBits yX11_unownedBits) ∈ wsL_law := kr_34 _ (List.mem_of_getElem? (i := 10) rfl)
theorem kw_34_11 : (Cond.code yX11_unownedBits cX11_unownedBits 6 (some .int)) ∈ wsL_law := kr_34 _ (List.mem_of_getElem? (i := 11) rfl)
theorem kw_34_12 : (Cond.methodLink RL 101 yX10_undo) ∈ wsL_law := kr_34 _ (List.mem_of_getElem? (i := 12) rfl)
theorem kw_34_13 : (Cond.instanceMethod yX10_undo) ∈ wsL_law := kr_34 _ (List.mem_of_getElem? (i := 13) rfl)
theorem kw_34_14 : (Cond.selects RX10 yX10_undo yX10_undo) ∈ wsL_law := kr_34 _ (List.mem_of_getElem? (i := 14) rfl)
theorem kw_34_15 : (Cond.code yX10_undo cX10_undo 1 (some .int)) ∈ wsL_law := kr_34 _ (List.mem_of_getElem? (i := 15) rfl)
theorem kw_34_16 : (Cond.methodLink RX10 249 yX0_restore) ∈ wsL_law := kr_34 _ (List.mem_of_getElem? (i := 16) rfl)
theorem kw_34_17 : (Cond.instanceMethod yX0_restore) ∈ wsL_law := kr_34 _ (List.mem_of_getElem? (i := 17) rfl)
theorem kw_34_18 : (Cond.selects RX0 yX0_restore yX0_restore) ∈ wsL_law := kr_34 _ (List.mem_of_getElem? (i := 18) rfl)
theorem kw_34_19 : (Cond.code yX0_restore cX0_restore 2 none) ∈ wsL_law := kr_34 _ (List.mem_of_getElem? (i := 19) rfl)
theorem kw_34_20 : (Cond.methodLink RL 104 yX11_undo) ∈ wsL_law := kr_34 _ (List.mem_of_getElem? (i := 20) rfl)
theorem kw_34_21 : (Cond.instanceMethod yX11_undo) ∈ wsL_law := kr_34 _ (List.mem_of_getElem? (i := 21) rfl)
theorem kw_34_22 : (Cond.selects RX11 yX11_undo yX11_undo) ∈ wsL_law := kr_34 _ (List.mem_of_getElem? (i := 22) rfl)
theorem kw_34_23 : (Cond.code yX11_undo cX11_undo 2 (some .int)) ∈ wsL_law := kr_34 _ (List.mem_of_getElem? (i := 23) rfl)
theorem kw_35_0 : (Cond.methodLink RL 105 yX10_type) ∈ wsL_law := kr_35 _ (List.mem_of_getElem? (i := 0) rfl)
theorem kw_35_1 : (Cond.instanceMethod yX10_type) ∈ wsL_law := kr_35 _ (List.mem_of_getElem? (i := 1) rfl)
theorem kw_35_2 : (Cond.selects RX10 yX10_type yX10_type) ∈ wsL_law := kr_35 _ (List.mem_of_getElem? (i := 2) rfl)
theorem kw_35_3 : (Cond.code yX10_type cX10_type 2 (some .int)) ∈ wsL_law := kr_35 _ (List.mem_of_getElem? (i := 3) rfl)
theorem kw_35_4 : (Cond.methodLink RX10 252 yX6_append) ∈ wsL_law := kr_35 _ (List.mem_of_getElem? (i := 4) rfl)
theorem kw_35_5 : (Cond.instanceMethod yX6_append) ∈ wsL_law := kr_35 _ (List.mem_of_getElem? (i := 5) rfl)
theorem kw_35_6 : (Cond.selects RX6 yX6_append yX6_append) ∈ wsL_law := kr_35 _ (List.mem_of_getElem? (i := 6) rfl)
theorem kw_35_7 : (Cond.code yX6_append cX6_append 2 (some .int)) ∈ wsL_law := kr_35 _ (List.mem_of_getElem? (i := 7) rfl)
theorem kw_35_8 : (Cond.fieldLink RX6 23 "PageRotas$Script" "length" "I") ∈ wsL_law := kr_35 _ (List.mem_of_getElem? (i := 8) rfl)
theorem kw_35_9 : (Cond.methodLink RL 108 yX11_type) ∈ wsL_law := kr_35 _ (List.mem_of_getElem? (i := 9) rfl)
theorem kw_35_10 : (Cond.instanceMethod yX11_type) ∈ wsL_law := kr_35 _ (List.mem_of_getElem? (i := 10) rfl)
theorem kw_35_11 : (Cond.selects RX11 yX11_type yX11_type) ∈ wsL_law := kr_35 _ (List.mem_of_getElem? (i := 11) rfl)
theorem kw_35_12 : (Cond.code yX11_type cX11_type 2 (some .int)) ∈ wsL_law := kr_35 _ (List.mem_of_getElem? (i := 12) rfl)
theorem kw_35_13 : (Cond.methodLink RL 109 yX10_clearText) ∈ wsL_law := kr_35 _ (List.mem_of_getElem? (i := 13) rfl)
theorem kw_35_14 : (Cond.instanceMethod yX10_clearText) ∈ wsL_law := kr_35 _ (List.mem_of_getElem? (i := 14) rfl)
theorem kw_35_15 : (Cond.selects RX10 yX10_clearText yX10_clearText) ∈ wsL_law := kr_35 _ (List.mem_of_getElem? (i := 15) rfl)
theorem kw_35_16 : (Cond.code yX10_clearText cX10_clearText 2 (some .int)) ∈ wsL_law := kr_35 _ (List.mem_of_getElem? (i := 16) rfl)
theorem kw_35_17 : (Cond.methodLink RL 112 yX11_clearText) ∈ wsL_law := kr_35 _ (List.mem_of_getElem? (i := 17) rfl)
theorem kw_35_18 : (Cond.instanceMethod yX11_clearText) ∈ wsL_law := kr_35 _ (List.mem_of_getElem? (i := 18) rfl)
theorem kw_35_19 : (Cond.selects RX11 yX11_clearText yX11_clearText) ∈ wsL_law := kr_35 _ (List.mem_of_getElem? (i := 19) rfl)
theorem kw_35_20 : (Cond.code yX11_clearText cX11_clearText 2 (some .int)) ∈ wsL_law := kr_35 _ (List.mem_of_getElem? (i := 20) rfl)
theorem kw_35_21 : (Cond.methodLink RL 113 yX10_fault) ∈ wsL_law := kr_35 _ (List.mem_of_getElem? (i := 21) rfl)
theorem kw_35_22 : (Cond.instanceMethod yX10_fault) ∈ wsL_law := kr_35 _ (List.mem_of_getElem? (i := 22) rfl)
theorem kw_35_23 : (Cond.selects RX10 yX10_fault yX10_fault) ∈ wsL_law := kr_35 _ (List.mem_of_getElem? (i := 23) rfl)
theorem kw_36_0 : (Cond.code yX10_fault cX10_fault 2 (some .int)) ∈ wsL_law := kr_36 _ (List.mem_of_getElem? (i := 0) rfl)
theorem kw_36_1 : (Cond.fieldLink RX10 259 "PageRotas$Script" "faultReason" "I") ∈ wsL_law := kr_36 _ (List.mem_of_getElem? (i := 1) rfl)
theorem kw_36_2 : (Cond.fieldLink RX10 262 "PageRotas$Script" "faultAt" "I") ∈ wsL_law := kr_36 _ (List.mem_of_getElem? (i := 2) rfl)
theorem kw_36_3 : (Cond.methodLink RX10 256 yX6_perform) ∈ wsL_law := kr_36 _ (List.mem_of_getElem? (i := 3) rfl)
theorem kw_36_4 : (Cond.instanceMethod yX6_perform) ∈ wsL_law := kr_36 _ (List.mem_of_getElem? (i := 4) rfl)
theorem kw_36_5 : (Cond.selects RX6 yX6_perform yX6_perform) ∈ wsL_law := kr_36 _ (List.mem_of_getElem? (i := 5) rfl)
theorem kw_36_6 : (Cond.code yX6_perform cX6_perform 5 none) ∈ wsL_law := kr_36 _ (List.mem_of_getElem? (i := 6) rfl)
theorem kw_36_7 : (Cond.fieldLink RX6 26 "PageRotas$Script" "commands" "I") ∈ wsL_law := kr_36 _ (List.mem_of_getElem? (i := 7) rfl)
theorem kw_36_8 : (Cond.fieldLink RX6 40 "PageRotas$Script" "faultAt" "I") ∈ wsL_law := kr_36 _ (List.mem_of_getElem? (i := 8) rfl)
theorem kw_36_9 : (Cond.methodLink RX6 29 yX6_readCommand) ∈ wsL_law := kr_36 _ (List.mem_of_getElem? (i := 9) rfl)
theorem kw_36_10 : (Cond.instanceMethod yX6_readCommand) ∈ wsL_law := kr_36 _ (List.mem_of_getElem? (i := 10) rfl)
theorem kw_36_11 : (Cond.selects RX6 yX6_readCommand yX6_readCommand) ∈ wsL_law := kr_36 _ (List.mem_of_getElem? (i := 11) rfl)
theorem kw_36_12 : (Cond.code yX6_readCommand cX6_readCommand 5 (some .int)) ∈ wsL_law := kr_36 _ (List.mem_of_getElem? (i := 12) rfl)
theorem kw_36_13 : (Cond.fieldLink RX6 43 "PageRotas$Script" "verb" "I") ∈ wsL_law := kr_36 _ (List.mem_of_getElem? (i := 13) rfl)
theorem kw_36_14 : (Cond.methodLink RX6 65 yX6_signAt) ∈ wsL_law := kr_36 _ (List.mem_of_getElem? (i := 14) rfl)
theorem kw_36_15 : (Cond.instanceMethod yX6_signAt) ∈ wsL_law := kr_36 _ (List.mem_of_getElem? (i := 15) rfl)
theorem kw_36_16 : (Cond.selects RX6 yX6_signAt yX6_signAt) ∈ wsL_law := kr_36 _ (List.mem_of_getElem? (i := 16) rfl)
theorem kw_36_17 : (Cond.code yX6_signAt cX6_signAt 2 (some .char)) ∈ wsL_law := kr_36 _ (List.mem_of_getElem? (i := 17) rfl)
theorem kw_36_18 : (Cond.methodLink RX6 69 yX6_numbersAfter) ∈ wsL_law := kr_36 _ (List.mem_of_getElem? (i := 18) rfl)
theorem kw_36_19 : (Cond.static yX6_numbersAfter) ∈ wsL_law := kr_36 _ (List.mem_of_getElem? (i := 19) rfl)
theorem kw_36_20 : (Cond.code yX6_numbersAfter cX6_numbersAfter 1 (some .int)) ∈ wsL_law := kr_36 _ (List.mem_of_getElem? (i := 20) rfl)
theorem kw_36_21 : (Cond.methodLink RX6 72 yX6_readNumber) ∈ wsL_law := kr_36 _ (List.mem_of_getElem? (i := 21) rfl)
theorem kw_36_22 : (Cond.instanceMethod yX6_readNumber) ∈ wsL_law := kr_36 _ (List.mem_of_getElem? (i := 22) rfl)
theorem kw_36_23 : (Cond.selects RX6 yX6_readNumber yX6_readNumber) ∈ wsL_law := kr_36 _ (List.mem_of_getElem? (i := 23) rfl)
theorem kw_37_0 : (Cond.code yX6_readNumber cX6_readNumber 6 (some .int)) ∈ wsL_law := kr_37 _ (List.mem_of_getElem? (i := 0) rfl)
theorem kw_37_1 : (Cond.methodLink RX6 76 yX6_isDigit) ∈ wsL_law := kr_37 _ (List.mem_of_getElem? (i := 1) rfl)
theorem kw_37_2 : (Cond.static yX6_isDigit) ∈ wsL_law := kr_37 _ (List.mem_of_getElem? (i := 2) rfl)
theorem kw_37_3 : (Cond.code yX6_isDigit cX6_isDigit 1 (some .boolean)) ∈ wsL_law := kr_37 _ (List.mem_of_getElem? (i := 3) rfl)
theorem kw_37_4 : (Cond.methodLink RX6 33 yX6_obey) ∈ wsL_law := kr_37 _ (List.mem_of_getElem? (i := 4) rfl)
theorem kw_37_5 : (Cond.instanceMethod yX6_obey) ∈ wsL_law := kr_37 _ (List.mem_of_getElem? (i := 5) rfl)
theorem kw_37_6 : (Cond.selects RX6 yX6_obey yX6_obey) ∈ wsL_law := kr_37 _ (List.mem_of_getElem? (i := 6) rfl)
theorem kw_37_7 : (Cond.code yX6_obey cX6_obey 2 (some .int)) ∈ wsL_law := kr_37 _ (List.mem_of_getElem? (i := 7) rfl)
theorem kw_37_8 : (Cond.methodLink RX6 46 yX1_takeAlert) ∈ wsL_law := kr_37 _ (List.mem_of_getElem? (i := 8) rfl)
theorem kw_37_9 : (Cond.methodLink RX6 52 yX1_takeAcknowledgement) ∈ wsL_law := kr_37 _ (List.mem_of_getElem? (i := 9) rfl)
theorem kw_37_10 : (Cond.methodLink RX6 55 yX1_close) ∈ wsL_law := kr_37 _ (List.mem_of_getElem? (i := 10) rfl)
theorem kw_37_11 : (Cond.methodLink RX6 58 yX1_putStandIn) ∈ wsL_law := kr_37 _ (List.mem_of_getElem? (i := 11) rfl)
theorem kw_37_12 : (Cond.methodLink RX6 62 yX1_letPass) ∈ wsL_law := kr_37 _ (List.mem_of_getElem? (i := 12) rfl)
theorem kw_37_13 : (Cond.methodLink RX6 37 yX6_reasonOf) ∈ wsL_law := kr_37 _ (List.mem_of_getElem? (i := 13) rfl)
theorem kw_37_14 : (Cond.static yX6_reasonOf) ∈ wsL_law := kr_37 _ (List.mem_of_getElem? (i := 14) rfl)
theorem kw_37_15 : (Cond.code yX6_reasonOf cX6_reasonOf 1 (some .int)) ∈ wsL_law := kr_37 _ (List.mem_of_getElem? (i := 15) rfl)
theorem kw_37_16 : (Cond.methodLink RL 116 yX11_fault) ∈ wsL_law := kr_37 _ (List.mem_of_getElem? (i := 16) rfl)
theorem kw_37_17 : (Cond.instanceMethod yX11_fault) ∈ wsL_law := kr_37 _ (List.mem_of_getElem? (i := 17) rfl)
theorem kw_37_18 : (Cond.selects RX11 yX11_fault yX11_fault) ∈ wsL_law := kr_37 _ (List.mem_of_getElem? (i := 18) rfl)
theorem kw_37_19 : (Cond.code yX11_fault cX11_fault 3 (some .int)) ∈ wsL_law := kr_37 _ (List.mem_of_getElem? (i := 19) rfl)
theorem kw_37_20 : (Cond.fieldLink RX11 189 "PageRotasModel" "reason" "I") ∈ wsL_law := kr_37 _ (List.mem_of_getElem? (i := 20) rfl)
theorem kw_37_21 : (Cond.methodLink RX11 192 yX11_does) ∈ wsL_law := kr_37 _ (List.mem_of_getElem? (i := 21) rfl)
theorem kw_37_22 : (Cond.instanceMethod yX11_does) ∈ wsL_law := kr_37 _ (List.mem_of_getElem? (i := 22) rfl)
theorem kw_37_23 : (Cond.selects RX11 yX11_does yX11_does) ∈ wsL_law := kr_37 _ (List.mem_of_getElem? (i := 23) rfl)
theorem kw_38_0 : (Cond.code yX11_does cX11_does 4 (some .int)) ∈ wsL_law := kr_38 _ (List.mem_of_getElem? (i := 0) rfl)
theorem kw_38_1 : (Cond.fieldLink RX11 170 "PageRotasModel" "at" "I") ∈ wsL_law := kr_38 _ (List.mem_of_getElem? (i := 1) rfl)
theorem kw_38_2 : (Cond.fieldLink RX11 173 "PageRotasModel" "isForm" "Z") ∈ wsL_law := kr_38 _ (List.mem_of_getElem? (i := 2) rfl)
theorem kw_38_3 : (Cond.methodLink RX11 186 yX11_command) ∈ wsL_law := kr_38 _ (List.mem_of_getElem? (i := 3) rfl)
theorem kw_38_4 : (Cond.instanceMethod yX11_command) ∈ wsL_law := kr_38 _ (List.mem_of_getElem? (i := 4) rfl)
theorem kw_38_5 : (Cond.selects RX11 yX11_command yX11_command) ∈ wsL_law := kr_38 _ (List.mem_of_getElem? (i := 5) rfl)
theorem kw_38_6 : (Cond.code yX11_command cX11_command 4 (some .int)) ∈ wsL_law := kr_38 _ (List.mem_of_getElem? (i := 6) rfl)
theorem kw_38_7 : (Cond.methodLink RX11 177 yX11_here) ∈ wsL_law := kr_38 _ (List.mem_of_getElem? (i := 7) rfl)
theorem kw_38_8 : (Cond.instanceMethod yX11_here) ∈ wsL_law := kr_38 _ (List.mem_of_getElem? (i := 8) rfl)
theorem kw_38_9 : (Cond.selects RX11 yX11_here yX11_here) ∈ wsL_law := kr_38 _ (List.mem_of_getElem? (i := 9) rfl)
theorem kw_38_10 : (Cond.code yX11_here cX11_here 1 (some .int)) ∈ wsL_law := kr_38 _ (List.mem_of_getElem? (i := 10) rfl)
theorem kw_38_11 : (Cond.methodLink RX11 183 yX11_readNumber) ∈ wsL_law := kr_38 _ (List.mem_of_getElem? (i := 11) rfl)
theorem kw_38_12 : (Cond.instanceMethod yX11_readNumber) ∈ wsL_law := kr_38 _ (List.mem_of_getElem? (i := 12) rfl)
theorem kw_38_13 : (Cond.selects RX11 yX11_readNumber yX11_readNumber) ∈ wsL_law := kr_38 _ (List.mem_of_getElem? (i := 13) rfl)
theorem kw_38_14 : (Cond.code yX11_readNumber cX11_readNumber 4 (some .int)) ∈ wsL_law := kr_38 _ (List.mem_of_getElem? (i := 14) rfl)
theorem kw_38_15 : (Cond.methodLink RX11 180 yX11_must) ∈ wsL_law := kr_38 _ (List.mem_of_getElem? (i := 15) rfl)
theorem kw_38_16 : (Cond.instanceMethod yX11_must) ∈ wsL_law := kr_38 _ (List.mem_of_getElem? (i := 16) rfl)
theorem kw_38_17 : (Cond.selects RX11 yX11_must yX11_must) ∈ wsL_law := kr_38 _ (List.mem_of_getElem? (i := 17) rfl)
theorem kw_38_18 : (Cond.code yX11_must cX11_must 2 none) ∈ wsL_law := kr_38 _ (List.mem_of_getElem? (i := 18) rfl)
theorem kw_38_19 : (Cond.methodLink RX11 195 yX11_returns) ∈ wsL_law := kr_38 _ (List.mem_of_getElem? (i := 19) rfl)
theorem kw_38_20 : (Cond.instanceMethod yX11_returns) ∈ wsL_law := kr_38 _ (List.mem_of_getElem? (i := 20) rfl)
theorem kw_38_21 : (Cond.selects RX11 yX11_returns yX11_returns) ∈ wsL_law := kr_38 _ (List.mem_of_getElem? (i := 21) rfl)
theorem kw_38_22 : (Cond.code yX11_returns cX11_returns 2 none) ∈ wsL_law := kr_38 _ (List.mem_of_getElem? (i := 22) rfl)
theorem kw_38_23 : (Cond.methodLink RL 117 yX10_play) ∈ wsL_law := kr_38 _ (List.mem_of_getElem? (i := 23) rfl)
theorem kw_39_0 : (Cond.instanceMethod yX10_play) ∈ wsL_law := kr_39 _ (List.mem_of_getElem? (i := 0) rfl)
theorem kw_39_1 : (Cond.selects RX10 yX10_play yX10_play) ∈ wsL_law := kr_39 _ (List.mem_of_getElem? (i := 1) rfl)
theorem kw_39_2 : (Cond.code yX10_play cX10_play 1 (some .int)) ∈ wsL_law := kr_39 _ (List.mem_of_getElem? (i := 2) rfl)
theorem kw_39_3 : (Cond.fieldLink RX10 265 "PageRotas$Script" "commands" "I") ∈ wsL_law := kr_39 _ (List.mem_of_getElem? (i := 3) rfl)
theorem kw_39_4 : (Cond.methodLink RL 120 yX11_play) ∈ wsL_law := kr_39 _ (List.mem_of_getElem? (i := 4) rfl)
theorem kw_39_5 : (Cond.instanceMethod yX11_play) ∈ wsL_law := kr_39 _ (List.mem_of_getElem? (i := 5) rfl)
theorem kw_39_6 : (Cond.selects RX11 yX11_play yX11_play) ∈ wsL_law := kr_39 _ (List.mem_of_getElem? (i := 6) rfl)
theorem kw_39_7 : (Cond.code yX11_play cX11_play 2 (some .int)) ∈ wsL_law := kr_39 _ (List.mem_of_getElem? (i := 7) rfl)
end
