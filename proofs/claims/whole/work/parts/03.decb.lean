theorem dX5_init_0 : decode cX5_init 0 = .ok (.aload_n 0, 1) := by decide +kernel
theorem dX5_init_1 : decode cX5_init 1 = .ok (.invokespecial 3, 3) := by decide +kernel
theorem dX5_init_4 : decode cX5_init 4 = .ok (.aload_n 0, 1) := by decide +kernel
theorem dX5_init_5 : decode cX5_init 5 = .ok (.bipush 8, 2) := by decide +kernel
theorem dX5_init_7 : decode cX5_init 7 = .ok (.anewarray 9, 3) := by decide +kernel
theorem dX5_init_10 : decode cX5_init 10 = .ok (.putfield 11, 3) := by decide +kernel
theorem dX5_init_13 : decode cX5_init 13 = .ok (.aload_n 0, 1) := by decide +kernel
theorem dX5_init_14 : decode cX5_init 14 = .ok (.iconst 3, 1) := by decide +kernel
theorem dX5_init_15 : decode cX5_init 15 = .ok (.anewarray 17, 3) := by decide +kernel
theorem dX5_init_18 : decode cX5_init 18 = .ok (.putfield 19, 3) := by decide +kernel
theorem dX5_init_21 : decode cX5_init 21 = .ok (.aload_n 0, 1) := by decide +kernel
theorem dX5_init_22 : decode cX5_init 22 = .ok (.bipush 6, 2) := by decide +kernel
theorem dX5_init_24 : decode cX5_init 24 = .ok (.anewarray 23, 3) := by decide +kernel
theorem dX5_init_27 : decode cX5_init 27 = .ok (.putfield 25, 3) := by decide +kernel
theorem dX5_init_30 : decode cX5_init 30 = .ok (.iconst 0, 1) := by decide +kernel
theorem dX5_init_31 : decode cX5_init 31 = .ok (.istore_n 1, 1) := by decide +kernel
theorem dX5_init_32 : decode cX5_init 32 = .ok (.iload_n 1, 1) := by decide +kernel
theorem dX5_init_33 : decode cX5_init 33 = .ok (.aload_n 0, 1) := by decide +kernel
theorem dX5_init_34 : decode cX5_init 34 = .ok (.getfield 11, 3) := by decide +kernel
theorem dX5_init_37 : decode cX5_init 37 = .ok (.arraylength, 1) := by decide +kernel
theorem dX5_init_38 : decode cX5_init 38 = .ok (.if_icmp .ge 22, 3) := by decide +kernel
theorem dX5_init_41 : decode cX5_init 41 = .ok (.aload_n 0, 1) := by decide +kernel
theorem dX5_init_42 : decode cX5_init 42 = .ok (.getfield 11, 3) := by decide +kernel
theorem dX5_init_45 : decode cX5_init 45 = .ok (.iload_n 1, 1) := by decide +kernel
theorem dX5_init_46 : decode cX5_init 46 = .ok (.new 9, 3) := by decide +kernel
theorem dX5_init_49 : decode cX5_init 49 = .ok (.dup, 1) := by decide +kernel
theorem dX5_init_50 : decode cX5_init 50 = .ok (.invokespecial 29, 3) := by decide +kernel
theorem dX5_init_53 : decode cX5_init 53 = .ok (.aastore, 1) := by decide +kernel
theorem dX5_init_54 : decode cX5_init 54 = .ok (.iinc 1 1, 3) := by decide +kernel
theorem dX5_init_57 : decode cX5_init 57 = .ok (.goto (-25), 3) := by decide +kernel
theorem dX5_init_60 : decode cX5_init 60 = .ok (.iconst 0, 1) := by decide +kernel
theorem dX5_init_61 : decode cX5_init 61 = .ok (.istore_n 1, 1) := by decide +kernel
theorem dX5_init_62 : decode cX5_init 62 = .ok (.iload_n 1, 1) := by decide +kernel
theorem dX5_init_63 : decode cX5_init 63 = .ok (.aload_n 0, 1) := by decide +kernel
theorem dX5_init_64 : decode cX5_init 64 = .ok (.getfield 19, 3) := by decide +kernel
theorem dX5_init_67 : decode cX5_init 67 = .ok (.arraylength, 1) := by decide +kernel
theorem dX5_init_68 : decode cX5_init 68 = .ok (.if_icmp .ge 22, 3) := by decide +kernel
theorem dX5_init_71 : decode cX5_init 71 = .ok (.aload_n 0, 1) := by decide +kernel
theorem dX5_init_72 : decode cX5_init 72 = .ok (.getfield 19, 3) := by decide +kernel
theorem dX5_init_75 : decode cX5_init 75 = .ok (.iload_n 1, 1) := by decide +kernel
theorem dX5_init_76 : decode cX5_init 76 = .ok (.new 17, 3) := by decide +kernel
theorem dX5_init_79 : decode cX5_init 79 = .ok (.dup, 1) := by decide +kernel
theorem dX5_init_80 : decode cX5_init 80 = .ok (.invokespecial 30, 3) := by decide +kernel
theorem dX5_init_83 : decode cX5_init 83 = .ok (.aastore, 1) := by decide +kernel
theorem dX5_init_84 : decode cX5_init 84 = .ok (.iinc 1 1, 3) := by decide +kernel
theorem dX5_init_87 : decode cX5_init 87 = .ok (.goto (-25), 3) := by decide +kernel
theorem dX5_init_90 : decode cX5_init 90 = .ok (.iconst 0, 1) := by decide +kernel
theorem dX5_init_91 : decode cX5_init 91 = .ok (.istore_n 1, 1) := by decide +kernel
theorem dX5_init_92 : decode cX5_init 92 = .ok (.iload_n 1, 1) := by decide +kernel
theorem dX5_init_93 : decode cX5_init 93 = .ok (.aload_n 0, 1) := by decide +kernel
theorem dX5_init_94 : decode cX5_init 94 = .ok (.getfield 25, 3) := by decide +kernel
theorem dX5_init_97 : decode cX5_init 97 = .ok (.arraylength, 1) := by decide +kernel
theorem dX5_init_98 : decode cX5_init 98 = .ok (.if_icmp .ge 22, 3) := by decide +kernel
theorem dX5_init_101 : decode cX5_init 101 = .ok (.aload_n 0, 1) := by decide +kernel
theorem dX5_init_102 : decode cX5_init 102 = .ok (.getfield 25, 3) := by decide +kernel
theorem dX5_init_105 : decode cX5_init 105 = .ok (.iload_n 1, 1) := by decide +kernel
theorem dX5_init_106 : decode cX5_init 106 = .ok (.new 23, 3) := by decide +kernel
theorem dX5_init_109 : decode cX5_init 109 = .ok (.dup, 1) := by decide +kernel
theorem dX5_init_110 : decode cX5_init 110 = .ok (.invokespecial 31, 3) := by decide +kernel
theorem dX5_init_113 : decode cX5_init 113 = .ok (.aastore, 1) := by decide +kernel
theorem dX5_init_114 : decode cX5_init 114 = .ok (.iinc 1 1, 3) := by decide +kernel
theorem dX5_init_117 : decode cX5_init 117 = .ok (.goto (-25), 3) := by decide +kernel
theorem dX5_init_120 : decode cX5_init 120 = .ok (.return_, 1) := by decide +kernel
theorem dX5_copyFrom_0 : decode cX5_copyFrom 0 = .ok (.iconst 0, 1) := by decide +kernel
theorem dX5_copyFrom_1 : decode cX5_copyFrom 1 = .ok (.istore_n 2, 1) := by decide +kernel
theorem dX5_copyFrom_2 : decode cX5_copyFrom 2 = .ok (.iload_n 2, 1) := by decide +kernel
theorem dX5_copyFrom_3 : decode cX5_copyFrom 3 = .ok (.aload_n 0, 1) := by decide +kernel
theorem dX5_copyFrom_4 : decode cX5_copyFrom 4 = .ok (.getfield 11, 3) := by decide +kernel
theorem dX5_copyFrom_7 : decode cX5_copyFrom 7 = .ok (.arraylength, 1) := by decide +kernel
theorem dX5_copyFrom_8 : decode cX5_copyFrom 8 = .ok (.if_icmp .ge 33, 3) := by decide +kernel
theorem dX5_copyFrom_11 : decode cX5_copyFrom 11 = .ok (.iload_n 2, 1) := by decide +kernel
theorem dX5_copyFrom_12 : decode cX5_copyFrom 12 = .ok (.aload_n 1, 1) := by decide +kernel
theorem dX5_copyFrom_13 : decode cX5_copyFrom 13 = .ok (.getfield 11, 3) := by decide +kernel
theorem dX5_copyFrom_16 : decode cX5_copyFrom 16 = .ok (.arraylength, 1) := by decide +kernel
theorem dX5_copyFrom_17 : decode cX5_copyFrom 17 = .ok (.if_icmp .ge 24, 3) := by decide +kernel
theorem dX5_copyFrom_20 : decode cX5_copyFrom 20 = .ok (.aload_n 0, 1) := by decide +kernel
theorem dX5_copyFrom_21 : decode cX5_copyFrom 21 = .ok (.getfield 11, 3) := by decide +kernel
theorem dX5_copyFrom_24 : decode cX5_copyFrom 24 = .ok (.iload_n 2, 1) := by decide +kernel
theorem dX5_copyFrom_25 : decode cX5_copyFrom 25 = .ok (.aaload, 1) := by decide +kernel
theorem dX5_copyFrom_26 : decode cX5_copyFrom 26 = .ok (.aload_n 1, 1) := by decide +kernel
theorem dX5_copyFrom_27 : decode cX5_copyFrom 27 = .ok (.getfield 11, 3) := by decide +kernel
theorem dX5_copyFrom_30 : decode cX5_copyFrom 30 = .ok (.iload_n 2, 1) := by decide +kernel
theorem dX5_copyFrom_31 : decode cX5_copyFrom 31 = .ok (.aaload, 1) := by decide +kernel
theorem dX5_copyFrom_32 : decode cX5_copyFrom 32 = .ok (.invokevirtual 32, 3) := by decide +kernel
theorem dX5_copyFrom_35 : decode cX5_copyFrom 35 = .ok (.iinc 2 1, 3) := by decide +kernel
theorem dX5_copyFrom_38 : decode cX5_copyFrom 38 = .ok (.goto (-36), 3) := by decide +kernel
theorem dX5_copyFrom_41 : decode cX5_copyFrom 41 = .ok (.iconst 0, 1) := by decide +kernel
theorem dX5_copyFrom_42 : decode cX5_copyFrom 42 = .ok (.istore_n 2, 1) := by decide +kernel
theorem dX5_copyFrom_43 : decode cX5_copyFrom 43 = .ok (.iload_n 2, 1) := by decide +kernel
theorem dX5_copyFrom_44 : decode cX5_copyFrom 44 = .ok (.aload_n 0, 1) := by decide +kernel
theorem dX5_copyFrom_45 : decode cX5_copyFrom 45 = .ok (.getfield 19, 3) := by decide +kernel
theorem dX5_copyFrom_48 : decode cX5_copyFrom 48 = .ok (.arraylength, 1) := by decide +kernel
theorem dX5_copyFrom_49 : decode cX5_copyFrom 49 = .ok (.if_icmp .ge 33, 3) := by decide +kernel
theorem dX5_copyFrom_52 : decode cX5_copyFrom 52 = .ok (.iload_n 2, 1) := by decide +kernel
theorem dX5_copyFrom_53 : decode cX5_copyFrom 53 = .ok (.aload_n 1, 1) := by decide +kernel
theorem dX5_copyFrom_54 : decode cX5_copyFrom 54 = .ok (.getfield 19, 3) := by decide +kernel
theorem dX5_copyFrom_57 : decode cX5_copyFrom 57 = .ok (.arraylength, 1) := by decide +kernel
theorem dX5_copyFrom_58 : decode cX5_copyFrom 58 = .ok (.if_icmp .ge 24, 3) := by decide +kernel
theorem dX5_copyFrom_61 : decode cX5_copyFrom 61 = .ok (.aload_n 0, 1) := by decide +kernel
theorem dX5_copyFrom_62 : decode cX5_copyFrom 62 = .ok (.getfield 19, 3) := by decide +kernel
theorem dX5_copyFrom_65 : decode cX5_copyFrom 65 = .ok (.iload_n 2, 1) := by decide +kernel
theorem dX5_copyFrom_66 : decode cX5_copyFrom 66 = .ok (.aaload, 1) := by decide +kernel
theorem dX5_copyFrom_67 : decode cX5_copyFrom 67 = .ok (.aload_n 1, 1) := by decide +kernel
theorem dX5_copyFrom_68 : decode cX5_copyFrom 68 = .ok (.getfield 19, 3) := by decide +kernel
theorem dX5_copyFrom_71 : decode cX5_copyFrom 71 = .ok (.iload_n 2, 1) := by decide +kernel
theorem dX5_copyFrom_72 : decode cX5_copyFrom 72 = .ok (.aaload, 1) := by decide +kernel
theorem dX5_copyFrom_73 : decode cX5_copyFrom 73 = .ok (.invokevirtual 36, 3) := by decide +kernel
theorem dX5_copyFrom_76 : decode cX5_copyFrom 76 = .ok (.iinc 2 1, 3) := by decide +kernel
theorem dX5_copyFrom_79 : decode cX5_copyFrom 79 = .ok (.goto (-36), 3) := by decide +kernel
theorem dX5_copyFrom_82 : decode cX5_copyFrom 82 = .ok (.iconst 0, 1) := by decide +kernel
theorem dX5_copyFrom_83 : decode cX5_copyFrom 83 = .ok (.istore_n 2, 1) := by decide +kernel
theorem dX5_copyFrom_84 : decode cX5_copyFrom 84 = .ok (.iload_n 2, 1) := by decide +kernel
theorem dX5_copyFrom_85 : decode cX5_copyFrom 85 = .ok (.aload_n 0, 1) := by decide +kernel
theorem dX5_copyFrom_86 : decode cX5_copyFrom 86 = .ok (.getfield 25, 3) := by decide +kernel
theorem dX5_copyFrom_89 : decode cX5_copyFrom 89 = .ok (.arraylength, 1) := by decide +kernel
theorem dX5_copyFrom_90 : decode cX5_copyFrom 90 = .ok (.if_icmp .ge 33, 3) := by decide +kernel
theorem dX5_copyFrom_93 : decode cX5_copyFrom 93 = .ok (.iload_n 2, 1) := by decide +kernel
theorem dX5_copyFrom_94 : decode cX5_copyFrom 94 = .ok (.aload_n 1, 1) := by decide +kernel
theorem dX5_copyFrom_95 : decode cX5_copyFrom 95 = .ok (.getfield 25, 3) := by decide +kernel
theorem dX5_copyFrom_98 : decode cX5_copyFrom 98 = .ok (.arraylength, 1) := by decide +kernel
theorem dX5_copyFrom_99 : decode cX5_copyFrom 99 = .ok (.if_icmp .ge 24, 3) := by decide +kernel
theorem dX5_copyFrom_102 : decode cX5_copyFrom 102 = .ok (.aload_n 0, 1) := by decide +kernel
theorem dX5_copyFrom_103 : decode cX5_copyFrom 103 = .ok (.getfield 25, 3) := by decide +kernel
theorem dX5_copyFrom_106 : decode cX5_copyFrom 106 = .ok (.iload_n 2, 1) := by decide +kernel
theorem dX5_copyFrom_107 : decode cX5_copyFrom 107 = .ok (.aaload, 1) := by decide +kernel
theorem dX5_copyFrom_108 : decode cX5_copyFrom 108 = .ok (.aload_n 1, 1) := by decide +kernel
theorem dX5_copyFrom_109 : decode cX5_copyFrom 109 = .ok (.getfield 25, 3) := by decide +kernel
theorem dX5_copyFrom_112 : decode cX5_copyFrom 112 = .ok (.iload_n 2, 1) := by decide +kernel
theorem dX5_copyFrom_113 : decode cX5_copyFrom 113 = .ok (.aaload, 1) := by decide +kernel
theorem dX5_copyFrom_114 : decode cX5_copyFrom 114 = .ok (.invokevirtual 39, 3) := by decide +kernel
theorem dX5_copyFrom_117 : decode cX5_copyFrom 117 = .ok (.iinc 2 1, 3) := by decide +kernel
theorem dX5_copyFrom_120 : decode cX5_copyFrom 120 = .ok (.goto (-36), 3) := by decide +kernel
theorem dX5_copyFrom_123 : decode cX5_copyFrom 123 = .ok (.aload_n 0, 1) := by decide +kernel
theorem dX5_copyFrom_124 : decode cX5_copyFrom 124 = .ok (.aload_n 1, 1) := by decide +kernel
theorem dX5_copyFrom_125 : decode cX5_copyFrom 125 = .ok (.getfield 42, 3) := by decide +kernel
theorem dX5_copyFrom_128 : decode cX5_copyFrom 128 = .ok (.putfield 42, 3) := by decide +kernel
theorem dX5_copyFrom_131 : decode cX5_copyFrom 131 = .ok (.aload_n 0, 1) := by decide +kernel
theorem dX5_copyFrom_132 : decode cX5_copyFrom 132 = .ok (.aload_n 1, 1) := by decide +kernel
theorem dX5_copyFrom_133 : decode cX5_copyFrom 133 = .ok (.getfield 46, 3) := by decide +kernel
theorem dX5_copyFrom_136 : decode cX5_copyFrom 136 = .ok (.putfield 46, 3) := by decide +kernel
theorem dX5_copyFrom_139 : decode cX5_copyFrom 139 = .ok (.aload_n 0, 1) := by decide +kernel
theorem dX5_copyFrom_140 : decode cX5_copyFrom 140 = .ok (.aload_n 1, 1) := by decide +kernel
theorem dX5_copyFrom_141 : decode cX5_copyFrom 141 = .ok (.getfield 49, 3) := by decide +kernel
theorem dX5_copyFrom_144 : decode cX5_copyFrom 144 = .ok (.putfield 49, 3) := by decide +kernel
theorem dX5_copyFrom_147 : decode cX5_copyFrom 147 = .ok (.return_, 1) := by decide +kernel
theorem dX5_hasPerson_0 : decode cX5_hasPerson 0 = .ok (.iload_n 1, 1) := by decide +kernel
theorem dX5_hasPerson_1 : decode cX5_hasPerson 1 = .ok (.ifCond .lt 24, 3) := by decide +kernel
theorem dX5_hasPerson_4 : decode cX5_hasPerson 4 = .ok (.iload_n 1, 1) := by decide +kernel
theorem dX5_hasPerson_5 : decode cX5_hasPerson 5 = .ok (.aload_n 0, 1) := by decide +kernel
theorem dX5_hasPerson_6 : decode cX5_hasPerson 6 = .ok (.getfield 42, 3) := by decide +kernel
theorem dX5_hasPerson_9 : decode cX5_hasPerson 9 = .ok (.if_icmp .ge 16, 3) := by decide +kernel
theorem dX5_hasPerson_12 : decode cX5_hasPerson 12 = .ok (.iload_n 1, 1) := by decide +kernel
theorem dX5_hasPerson_13 : decode cX5_hasPerson 13 = .ok (.aload_n 0, 1) := by decide +kernel
theorem dX5_hasPerson_14 : decode cX5_hasPerson 14 = .ok (.getfield 11, 3) := by decide +kernel
theorem dX5_hasPerson_17 : decode cX5_hasPerson 17 = .ok (.arraylength, 1) := by decide +kernel
theorem dX5_hasPerson_18 : decode cX5_hasPerson 18 = .ok (.if_icmp .ge 7, 3) := by decide +kernel
theorem dX5_hasPerson_21 : decode cX5_hasPerson 21 = .ok (.iconst 1, 1) := by decide +kernel
theorem dX5_hasPerson_22 : decode cX5_hasPerson 22 = .ok (.goto 4, 3) := by decide +kernel
theorem dX5_hasPerson_25 : decode cX5_hasPerson 25 = .ok (.iconst 0, 1) := by decide +kernel
theorem dX5_hasPerson_26 : decode cX5_hasPerson 26 = .ok (.ireturn, 1) := by decide +kernel
theorem dX5_hasRegion_0 : decode cX5_hasRegion 0 = .ok (.iload_n 1, 1) := by decide +kernel
theorem dX5_hasRegion_1 : decode cX5_hasRegion 1 = .ok (.ifCond .lt 24, 3) := by decide +kernel
theorem dX5_hasRegion_4 : decode cX5_hasRegion 4 = .ok (.iload_n 1, 1) := by decide +kernel
theorem dX5_hasRegion_5 : decode cX5_hasRegion 5 = .ok (.aload_n 0, 1) := by decide +kernel
theorem dX5_hasRegion_6 : decode cX5_hasRegion 6 = .ok (.getfield 46, 3) := by decide +kernel
theorem dX5_hasRegion_9 : decode cX5_hasRegion 9 = .ok (.if_icmp .ge 16, 3) := by decide +kernel
theorem dX5_hasRegion_12 : decode cX5_hasRegion 12 = .ok (.iload_n 1, 1) := by decide +kernel
theorem dX5_hasRegion_13 : decode cX5_hasRegion 13 = .ok (.aload_n 0, 1) := by decide +kernel
theorem dX5_hasRegion_14 : decode cX5_hasRegion 14 = .ok (.getfield 19, 3) := by decide +kernel
theorem dX5_hasRegion_17 : decode cX5_hasRegion 17 = .ok (.arraylength, 1) := by decide +kernel
theorem dX5_hasRegion_18 : decode cX5_hasRegion 18 = .ok (.if_icmp .ge 7, 3) := by decide +kernel
theorem dX5_hasRegion_21 : decode cX5_hasRegion 21 = .ok (.iconst 1, 1) := by decide +kernel
theorem dX5_hasRegion_22 : decode cX5_hasRegion 22 = .ok (.goto 4, 3) := by decide +kernel
theorem dX5_hasRegion_25 : decode cX5_hasRegion 25 = .ok (.iconst 0, 1) := by decide +kernel
theorem dX5_hasRegion_26 : decode cX5_hasRegion 26 = .ok (.ireturn, 1) := by decide +kernel
theorem dX5_addPerson_0 : decode cX5_addPerson 0 = .ok (.aload_n 0, 1) := by decide +kernel
theorem dX5_addPerson_1 : decode cX5_addPerson 1 = .ok (.getfield 42, 3) := by decide +kernel
theorem dX5_addPerson_4 : decode cX5_addPerson 4 = .ok (.istore_n 1, 1) := by decide +kernel
theorem dX5_addPerson_5 : decode cX5_addPerson 5 = .ok (.iload_n 1, 1) := by decide +kernel
theorem dX5_addPerson_6 : decode cX5_addPerson 6 = .ok (.ifCond .lt 12, 3) := by decide +kernel
theorem dX5_addPerson_9 : decode cX5_addPerson 9 = .ok (.iload_n 1, 1) := by decide +kernel
theorem dX5_addPerson_10 : decode cX5_addPerson 10 = .ok (.aload_n 0, 1) := by decide +kernel
theorem dX5_addPerson_11 : decode cX5_addPerson 11 = .ok (.getfield 11, 3) := by decide +kernel
theorem dX5_addPerson_14 : decode cX5_addPerson 14 = .ok (.arraylength, 1) := by decide +kernel
theorem dX5_addPerson_15 : decode cX5_addPerson 15 = .ok (.if_icmp .lt 6, 3) := by decide +kernel
theorem dX5_addPerson_18 : decode cX5_addPerson 18 = .ok (.bipush (-3), 2) := by decide +kernel
theorem dX5_addPerson_20 : decode cX5_addPerson 20 = .ok (.ireturn, 1) := by decide +kernel
theorem dX5_addPerson_21 : decode cX5_addPerson 21 = .ok (.aload_n 0, 1) := by decide +kernel
theorem dX5_addPerson_22 : decode cX5_addPerson 22 = .ok (.dup, 1) := by decide +kernel
theorem dX5_addPerson_23 : decode cX5_addPerson 23 = .ok (.getfield 42, 3) := by decide +kernel
theorem dX5_addPerson_26 : decode cX5_addPerson 26 = .ok (.iconst 1, 1) := by decide +kernel
theorem dX5_addPerson_27 : decode cX5_addPerson 27 = .ok (.iadd, 1) := by decide +kernel
theorem dX5_addPerson_28 : decode cX5_addPerson 28 = .ok (.putfield 42, 3) := by decide +kernel
theorem dX5_addPerson_31 : decode cX5_addPerson 31 = .ok (.iload_n 1, 1) := by decide +kernel
theorem dX5_addPerson_32 : decode cX5_addPerson 32 = .ok (.ireturn, 1) := by decide +kernel
theorem dX5_addRegion_0 : decode cX5_addRegion 0 = .ok (.iload_n 1, 1) := by decide +kernel
theorem dX5_addRegion_1 : decode cX5_addRegion 1 = .ok (.invokestatic 52, 3) := by decide +kernel
theorem dX5_addRegion_4 : decode cX5_addRegion 4 = .ok (.ifCond .eq 26, 3) := by decide +kernel
theorem dX5_addRegion_7 : decode cX5_addRegion 7 = .ok (.iload_n 2, 1) := by decide +kernel
theorem dX5_addRegion_8 : decode cX5_addRegion 8 = .ok (.invokestatic 52, 3) := by decide +kernel
theorem dX5_addRegion_11 : decode cX5_addRegion 11 = .ok (.ifCond .eq 19, 3) := by decide +kernel
theorem dX5_addRegion_14 : decode cX5_addRegion 14 = .ok (.iload_n 1, 1) := by decide +kernel
theorem dX5_addRegion_15 : decode cX5_addRegion 15 = .ok (.iload_n 2, 1) := by decide +kernel
theorem dX5_addRegion_16 : decode cX5_addRegion 16 = .ok (.if_icmp .eq 14, 3) := by decide +kernel
theorem dX5_addRegion_19 : decode cX5_addRegion 19 = .ok (.iload_n 3, 1) := by decide +kernel
theorem dX5_addRegion_20 : decode cX5_addRegion 20 = .ok (.iconst 1, 1) := by decide +kernel
theorem dX5_addRegion_21 : decode cX5_addRegion 21 = .ok (.if_icmp .lt 9, 3) := by decide +kernel
theorem dX5_addRegion_24 : decode cX5_addRegion 24 = .ok (.iload_n 3, 1) := by decide +kernel
theorem dX5_addRegion_25 : decode cX5_addRegion 25 = .ok (.bipush 24, 2) := by decide +kernel
theorem dX5_addRegion_27 : decode cX5_addRegion 27 = .ok (.if_icmp .le 5, 3) := by decide +kernel
theorem dX5_addRegion_30 : decode cX5_addRegion 30 = .ok (.iconst (-1), 1) := by decide +kernel
theorem dX5_addRegion_31 : decode cX5_addRegion 31 = .ok (.ireturn, 1) := by decide +kernel
theorem dX5_addRegion_32 : decode cX5_addRegion 32 = .ok (.aload_n 0, 1) := by decide +kernel
theorem dX5_addRegion_33 : decode cX5_addRegion 33 = .ok (.getfield 46, 3) := by decide +kernel
theorem dX5_addRegion_36 : decode cX5_addRegion 36 = .ok (.istore 4, 2) := by decide +kernel
theorem dX5_addRegion_38 : decode cX5_addRegion 38 = .ok (.iload 4, 2) := by decide +kernel
theorem dX5_addRegion_40 : decode cX5_addRegion 40 = .ok (.ifCond .lt 13, 3) := by decide +kernel
theorem dX5_addRegion_43 : decode cX5_addRegion 43 = .ok (.iload 4, 2) := by decide +kernel
theorem dX5_addRegion_45 : decode cX5_addRegion 45 = .ok (.aload_n 0, 1) := by decide +kernel
theorem dX5_addRegion_46 : decode cX5_addRegion 46 = .ok (.getfield 19, 3) := by decide +kernel
theorem dX5_addRegion_49 : decode cX5_addRegion 49 = .ok (.arraylength, 1) := by decide +kernel
theorem dX5_addRegion_50 : decode cX5_addRegion 50 = .ok (.if_icmp .lt 6, 3) := by decide +kernel
theorem dX5_addRegion_53 : decode cX5_addRegion 53 = .ok (.bipush (-3), 2) := by decide +kernel
theorem dX5_addRegion_55 : decode cX5_addRegion 55 = .ok (.ireturn, 1) := by decide +kernel
theorem dX5_addRegion_56 : decode cX5_addRegion 56 = .ok (.aload_n 0, 1) := by decide +kernel
theorem dX5_addRegion_57 : decode cX5_addRegion 57 = .ok (.getfield 19, 3) := by decide +kernel
theorem dX5_addRegion_60 : decode cX5_addRegion 60 = .ok (.iload 4, 2) := by decide +kernel
theorem dX5_addRegion_62 : decode cX5_addRegion 62 = .ok (.aaload, 1) := by decide +kernel
theorem dX5_addRegion_63 : decode cX5_addRegion 63 = .ok (.iload_n 1, 1) := by decide +kernel
theorem dX5_addRegion_64 : decode cX5_addRegion 64 = .ok (.iload_n 2, 1) := by decide +kernel
theorem dX5_addRegion_65 : decode cX5_addRegion 65 = .ok (.iload_n 3, 1) := by decide +kernel
theorem dX5_addRegion_66 : decode cX5_addRegion 66 = .ok (.invokevirtual 58, 3) := by decide +kernel
theorem dX5_addRegion_69 : decode cX5_addRegion 69 = .ok (.aload_n 0, 1) := by decide +kernel
theorem dX5_addRegion_70 : decode cX5_addRegion 70 = .ok (.dup, 1) := by decide +kernel
theorem dX5_addRegion_71 : decode cX5_addRegion 71 = .ok (.getfield 46, 3) := by decide +kernel
theorem dX5_addRegion_74 : decode cX5_addRegion 74 = .ok (.iconst 1, 1) := by decide +kernel
theorem dX5_addRegion_75 : decode cX5_addRegion 75 = .ok (.iadd, 1) := by decide +kernel
theorem dX5_addRegion_76 : decode cX5_addRegion 76 = .ok (.putfield 46, 3) := by decide +kernel
theorem dX5_addRegion_79 : decode cX5_addRegion 79 = .ok (.iload 4, 2) := by decide +kernel
theorem dX5_addRegion_81 : decode cX5_addRegion 81 = .ok (.ireturn, 1) := by decide +kernel
theorem dX5_letJoin_0 : decode cX5_letJoin 0 = .ok (.aload_n 0, 1) := by decide +kernel
theorem dX5_letJoin_1 : decode cX5_letJoin 1 = .ok (.iload_n 1, 1) := by decide +kernel
theorem dX5_letJoin_2 : decode cX5_letJoin 2 = .ok (.invokevirtual 62, 3) := by decide +kernel
theorem dX5_letJoin_5 : decode cX5_letJoin 5 = .ok (.ifCond .eq 11, 3) := by decide +kernel
theorem dX5_letJoin_8 : decode cX5_letJoin 8 = .ok (.aload_n 0, 1) := by decide +kernel
theorem dX5_letJoin_9 : decode cX5_letJoin 9 = .ok (.iload_n 2, 1) := by decide +kernel
theorem dX5_letJoin_10 : decode cX5_letJoin 10 = .ok (.invokevirtual 65, 3) := by decide +kernel
theorem dX5_letJoin_13 : decode cX5_letJoin 13 = .ok (.ifCond .ne 5, 3) := by decide +kernel
theorem dX5_letJoin_16 : decode cX5_letJoin 16 = .ok (.iconst (-1), 1) := by decide +kernel
theorem dX5_letJoin_17 : decode cX5_letJoin 17 = .ok (.ireturn, 1) := by decide +kernel
theorem dX5_letJoin_18 : decode cX5_letJoin 18 = .ok (.aload_n 0, 1) := by decide +kernel
theorem dX5_letJoin_19 : decode cX5_letJoin 19 = .ok (.getfield 19, 3) := by decide +kernel
theorem dX5_letJoin_22 : decode cX5_letJoin 22 = .ok (.iload_n 1, 1) := by decide +kernel
theorem dX5_letJoin_23 : decode cX5_letJoin 23 = .ok (.aaload, 1) := by decide +kernel
theorem dX5_letJoin_24 : decode cX5_letJoin 24 = .ok (.iload_n 2, 1) := by decide +kernel
theorem dX5_letJoin_25 : decode cX5_letJoin 25 = .ok (.invokevirtual 68, 3) := by decide +kernel
theorem dX5_letJoin_28 : decode cX5_letJoin 28 = .ok (.ireturn, 1) := by decide +kernel
theorem dX5_letLeave_0 : decode cX5_letLeave 0 = .ok (.aload_n 0, 1) := by decide +kernel
theorem dX5_letLeave_1 : decode cX5_letLeave 1 = .ok (.iload_n 1, 1) := by decide +kernel
theorem dX5_letLeave_2 : decode cX5_letLeave 2 = .ok (.invokevirtual 62, 3) := by decide +kernel
theorem dX5_letLeave_5 : decode cX5_letLeave 5 = .ok (.ifCond .eq 11, 3) := by decide +kernel
theorem dX5_letLeave_8 : decode cX5_letLeave 8 = .ok (.aload_n 0, 1) := by decide +kernel
theorem dX5_letLeave_9 : decode cX5_letLeave 9 = .ok (.iload_n 2, 1) := by decide +kernel
theorem dX5_letLeave_10 : decode cX5_letLeave 10 = .ok (.invokevirtual 65, 3) := by decide +kernel
theorem dX5_letLeave_13 : decode cX5_letLeave 13 = .ok (.ifCond .ne 5, 3) := by decide +kernel
theorem dX5_letLeave_16 : decode cX5_letLeave 16 = .ok (.iconst (-1), 1) := by decide +kernel
theorem dX5_letLeave_17 : decode cX5_letLeave 17 = .ok (.ireturn, 1) := by decide +kernel
theorem dX5_letLeave_18 : decode cX5_letLeave 18 = .ok (.aload_n 0, 1) := by decide +kernel
theorem dX5_letLeave_19 : decode cX5_letLeave 19 = .ok (.getfield 19, 3) := by decide +kernel
theorem dX5_letLeave_22 : decode cX5_letLeave 22 = .ok (.iload_n 1, 1) := by decide +kernel
theorem dX5_letLeave_23 : decode cX5_letLeave 23 = .ok (.aaload, 1) := by decide +kernel
theorem dX5_letLeave_24 : decode cX5_letLeave 24 = .ok (.iload_n 2, 1) := by decide +kernel
theorem dX5_letLeave_25 : decode cX5_letLeave 25 = .ok (.invokevirtual 72, 3) := by decide +kernel
theorem dX5_letLeave_28 : decode cX5_letLeave 28 = .ok (.ireturn, 1) := by decide +kernel
theorem dX5_putQuietHours_0 : decode cX5_putQuietHours 0 = .ok (.aload_n 0, 1) := by decide +kernel
theorem dX5_putQuietHours_1 : decode cX5_putQuietHours 1 = .ok (.iload_n 1, 1) := by decide +kernel
theorem dX5_putQuietHours_2 : decode cX5_putQuietHours 2 = .ok (.invokevirtual 65, 3) := by decide +kernel
theorem dX5_putQuietHours_5 : decode cX5_putQuietHours 5 = .ok (.ifCond .eq 17, 3) := by decide +kernel
theorem dX5_putQuietHours_8 : decode cX5_putQuietHours 8 = .ok (.iload_n 2, 1) := by decide +kernel
theorem dX5_putQuietHours_9 : decode cX5_putQuietHours 9 = .ok (.invokestatic 52, 3) := by decide +kernel
theorem dX5_putQuietHours_12 : decode cX5_putQuietHours 12 = .ok (.ifCond .eq 10, 3) := by decide +kernel
theorem dX5_putQuietHours_15 : decode cX5_putQuietHours 15 = .ok (.iload_n 3, 1) := by decide +kernel
theorem dX5_putQuietHours_16 : decode cX5_putQuietHours 16 = .ok (.invokestatic 52, 3) := by decide +kernel
theorem dX5_putQuietHours_19 : decode cX5_putQuietHours 19 = .ok (.ifCond .ne 5, 3) := by decide +kernel
theorem dX5_putQuietHours_22 : decode cX5_putQuietHours 22 = .ok (.iconst (-1), 1) := by decide +kernel
theorem dX5_putQuietHours_23 : decode cX5_putQuietHours 23 = .ok (.ireturn, 1) := by decide +kernel
theorem dX5_putQuietHours_24 : decode cX5_putQuietHours 24 = .ok (.aload_n 0, 1) := by decide +kernel
theorem dX5_putQuietHours_25 : decode cX5_putQuietHours 25 = .ok (.getfield 11, 3) := by decide +kernel
theorem dX5_putQuietHours_28 : decode cX5_putQuietHours 28 = .ok (.iload_n 1, 1) := by decide +kernel
theorem dX5_putQuietHours_29 : decode cX5_putQuietHours 29 = .ok (.aaload, 1) := by decide +kernel
theorem dX5_putQuietHours_30 : decode cX5_putQuietHours 30 = .ok (.getfield 75, 3) := by decide +kernel
theorem dX5_putQuietHours_33 : decode cX5_putQuietHours 33 = .ok (.iload_n 2, 1) := by decide +kernel
theorem dX5_putQuietHours_34 : decode cX5_putQuietHours 34 = .ok (.iload_n 3, 1) := by decide +kernel
theorem dX5_putQuietHours_35 : decode cX5_putQuietHours 35 = .ok (.invokevirtual 79, 3) := by decide +kernel
theorem dX5_putQuietHours_38 : decode cX5_putQuietHours 38 = .ok (.aload_n 0, 1) := by decide +kernel
theorem dX5_putQuietHours_39 : decode cX5_putQuietHours 39 = .ok (.getfield 11, 3) := by decide +kernel
theorem dX5_putQuietHours_42 : decode cX5_putQuietHours 42 = .ok (.iload_n 1, 1) := by decide +kernel
theorem dX5_putQuietHours_43 : decode cX5_putQuietHours 43 = .ok (.aaload, 1) := by decide +kernel
theorem dX5_putQuietHours_44 : decode cX5_putQuietHours 44 = .ok (.getfield 75, 3) := by decide +kernel
theorem dX5_putQuietHours_47 : decode cX5_putQuietHours 47 = .ok (.invokevirtual 82, 3) := by decide +kernel
theorem dX5_putQuietHours_50 : decode cX5_putQuietHours 50 = .ok (.ireturn, 1) := by decide +kernel
theorem dX5_turnException_0 : decode cX5_turnException 0 = .ok (.aload_n 0, 1) := by decide +kernel
theorem dX5_turnException_1 : decode cX5_turnException 1 = .ok (.iload_n 1, 1) := by decide +kernel
theorem dX5_turnException_2 : decode cX5_turnException 2 = .ok (.invokevirtual 65, 3) := by decide +kernel
theorem dX5_turnException_5 : decode cX5_turnException 5 = .ok (.ifCond .eq 13, 3) := by decide +kernel
theorem dX5_turnException_8 : decode cX5_turnException 8 = .ok (.iload_n 2, 1) := by decide +kernel
theorem dX5_turnException_9 : decode cX5_turnException 9 = .ok (.ifCond .lt 9, 3) := by decide +kernel
theorem dX5_turnException_12 : decode cX5_turnException 12 = .ok (.iload_n 2, 1) := by decide +kernel
theorem dX5_turnException_13 : decode cX5_turnException 13 = .ok (.bipush 20, 2) := by decide +kernel
theorem dX5_turnException_15 : decode cX5_turnException 15 = .ok (.if_icmp .lt 5, 3) := by decide +kernel
theorem dX5_turnException_18 : decode cX5_turnException 18 = .ok (.iconst (-1), 1) := by decide +kernel
theorem dX5_turnException_19 : decode cX5_turnException 19 = .ok (.ireturn, 1) := by decide +kernel
theorem dX5_turnException_20 : decode cX5_turnException 20 = .ok (.aload_n 0, 1) := by decide +kernel
theorem dX5_turnException_21 : decode cX5_turnException 21 = .ok (.getfield 11, 3) := by decide +kernel
theorem dX5_turnException_24 : decode cX5_turnException 24 = .ok (.iload_n 1, 1) := by decide +kernel
theorem dX5_turnException_25 : decode cX5_turnException 25 = .ok (.aaload, 1) := by decide +kernel
theorem dX5_turnException_26 : decode cX5_turnException 26 = .ok (.dup, 1) := by decide +kernel
theorem dX5_turnException_27 : decode cX5_turnException 27 = .ok (.getfield 86, 3) := by decide +kernel
theorem dX5_turnException_30 : decode cX5_turnException 30 = .ok (.iconst 1, 1) := by decide +kernel
theorem dX5_turnException_31 : decode cX5_turnException 31 = .ok (.iload_n 2, 1) := by decide +kernel
theorem dX5_turnException_32 : decode cX5_turnException 32 = .ok (.ishl, 1) := by decide +kernel
theorem dX5_turnException_33 : decode cX5_turnException 33 = .ok (.ixor, 1) := by decide +kernel
theorem dX5_turnException_34 : decode cX5_turnException 34 = .ok (.putfield 86, 3) := by decide +kernel
theorem dX5_turnException_37 : decode cX5_turnException 37 = .ok (.aload_n 0, 1) := by decide +kernel
theorem dX5_turnException_38 : decode cX5_turnException 38 = .ok (.getfield 11, 3) := by decide +kernel
theorem dX5_turnException_41 : decode cX5_turnException 41 = .ok (.iload_n 1, 1) := by decide +kernel
theorem dX5_turnException_42 : decode cX5_turnException 42 = .ok (.aaload, 1) := by decide +kernel
theorem dX5_turnException_43 : decode cX5_turnException 43 = .ok (.getfield 86, 3) := by decide +kernel
theorem dX5_turnException_46 : decode cX5_turnException 46 = .ok (.invokestatic 89, 3) := by decide +kernel
theorem dX5_turnException_49 : decode cX5_turnException 49 = .ok (.ireturn, 1) := by decide +kernel
theorem dX5_regionsOf_0 : decode cX5_regionsOf 0 = .ok (.iconst 0, 1) := by decide +kernel
theorem dX5_regionsOf_1 : decode cX5_regionsOf 1 = .ok (.istore_n 2, 1) := by decide +kernel
theorem dX5_regionsOf_2 : decode cX5_regionsOf 2 = .ok (.iconst 0, 1) := by decide +kernel
theorem dX5_regionsOf_3 : decode cX5_regionsOf 3 = .ok (.istore_n 3, 1) := by decide +kernel
theorem dX5_regionsOf_4 : decode cX5_regionsOf 4 = .ok (.iload_n 3, 1) := by decide +kernel
theorem dX5_regionsOf_5 : decode cX5_regionsOf 5 = .ok (.aload_n 0, 1) := by decide +kernel
theorem dX5_regionsOf_6 : decode cX5_regionsOf 6 = .ok (.getfield 46, 3) := by decide +kernel
theorem dX5_regionsOf_9 : decode cX5_regionsOf 9 = .ok (.if_icmp .ge 38, 3) := by decide +kernel
theorem dX5_regionsOf_12 : decode cX5_regionsOf 12 = .ok (.iload_n 3, 1) := by decide +kernel
theorem dX5_regionsOf_13 : decode cX5_regionsOf 13 = .ok (.aload_n 0, 1) := by decide +kernel
theorem dX5_regionsOf_14 : decode cX5_regionsOf 14 = .ok (.getfield 19, 3) := by decide +kernel
theorem dX5_regionsOf_17 : decode cX5_regionsOf 17 = .ok (.arraylength, 1) := by decide +kernel
theorem dX5_regionsOf_18 : decode cX5_regionsOf 18 = .ok (.if_icmp .ge 29, 3) := by decide +kernel
theorem dX5_regionsOf_21 : decode cX5_regionsOf 21 = .ok (.aload_n 0, 1) := by decide +kernel
theorem dX5_regionsOf_22 : decode cX5_regionsOf 22 = .ok (.getfield 19, 3) := by decide +kernel
theorem dX5_regionsOf_25 : decode cX5_regionsOf 25 = .ok (.iload_n 3, 1) := by decide +kernel
theorem dX5_regionsOf_26 : decode cX5_regionsOf 26 = .ok (.aaload, 1) := by decide +kernel
theorem dX5_regionsOf_27 : decode cX5_regionsOf 27 = .ok (.iload_n 1, 1) := by decide +kernel
theorem dX5_regionsOf_28 : decode cX5_regionsOf 28 = .ok (.invokevirtual 94, 3) := by decide +kernel
theorem dX5_regionsOf_31 : decode cX5_regionsOf 31 = .ok (.iconst (-1), 1) := by decide +kernel
theorem dX5_regionsOf_32 : decode cX5_regionsOf 32 = .ok (.if_icmp .eq 9, 3) := by decide +kernel
theorem dX5_regionsOf_35 : decode cX5_regionsOf 35 = .ok (.iload_n 2, 1) := by decide +kernel
theorem dX5_regionsOf_36 : decode cX5_regionsOf 36 = .ok (.iconst 1, 1) := by decide +kernel
theorem dX5_regionsOf_37 : decode cX5_regionsOf 37 = .ok (.iload_n 3, 1) := by decide +kernel
theorem dX5_regionsOf_38 : decode cX5_regionsOf 38 = .ok (.ishl, 1) := by decide +kernel
theorem dX5_regionsOf_39 : decode cX5_regionsOf 39 = .ok (.ior, 1) := by decide +kernel
theorem dX5_regionsOf_40 : decode cX5_regionsOf 40 = .ok (.istore_n 2, 1) := by decide +kernel
theorem dX5_regionsOf_41 : decode cX5_regionsOf 41 = .ok (.iinc 3 1, 3) := by decide +kernel
theorem dX5_regionsOf_44 : decode cX5_regionsOf 44 = .ok (.goto (-40), 3) := by decide +kernel
theorem dX5_regionsOf_47 : decode cX5_regionsOf 47 = .ok (.iload_n 2, 1) := by decide +kernel
theorem dX5_regionsOf_48 : decode cX5_regionsOf 48 = .ok (.ireturn, 1) := by decide +kernel
theorem dX5_standInsAt_0 : decode cX5_standInsAt 0 = .ok (.iconst 0, 1) := by decide +kernel
theorem dX5_standInsAt_1 : decode cX5_standInsAt 1 = .ok (.istore_n 2, 1) := by decide +kernel
theorem dX5_standInsAt_2 : decode cX5_standInsAt 2 = .ok (.iconst 0, 1) := by decide +kernel
theorem dX5_standInsAt_3 : decode cX5_standInsAt 3 = .ok (.istore_n 3, 1) := by decide +kernel
theorem dX5_standInsAt_4 : decode cX5_standInsAt 4 = .ok (.iload_n 3, 1) := by decide +kernel
theorem dX5_standInsAt_5 : decode cX5_standInsAt 5 = .ok (.aload_n 0, 1) := by decide +kernel
theorem dX5_standInsAt_6 : decode cX5_standInsAt 6 = .ok (.getfield 49, 3) := by decide +kernel
theorem dX5_standInsAt_9 : decode cX5_standInsAt 9 = .ok (.if_icmp .ge 34, 3) := by decide +kernel
theorem dX5_standInsAt_12 : decode cX5_standInsAt 12 = .ok (.iload_n 3, 1) := by decide +kernel
theorem dX5_standInsAt_13 : decode cX5_standInsAt 13 = .ok (.aload_n 0, 1) := by decide +kernel
theorem dX5_standInsAt_14 : decode cX5_standInsAt 14 = .ok (.getfield 25, 3) := by decide +kernel
theorem dX5_standInsAt_17 : decode cX5_standInsAt 17 = .ok (.arraylength, 1) := by decide +kernel
theorem dX5_standInsAt_18 : decode cX5_standInsAt 18 = .ok (.if_icmp .ge 25, 3) := by decide +kernel
theorem dX5_standInsAt_21 : decode cX5_standInsAt 21 = .ok (.aload_n 0, 1) := by decide +kernel
theorem dX5_standInsAt_22 : decode cX5_standInsAt 22 = .ok (.getfield 25, 3) := by decide +kernel
theorem dX5_standInsAt_25 : decode cX5_standInsAt 25 = .ok (.iload_n 3, 1) := by decide +kernel
theorem dX5_standInsAt_26 : decode cX5_standInsAt 26 = .ok (.aaload, 1) := by decide +kernel
theorem dX5_standInsAt_27 : decode cX5_standInsAt 27 = .ok (.iload_n 1, 1) := by decide +kernel
theorem dX5_standInsAt_28 : decode cX5_standInsAt 28 = .ok (.invokevirtual 97, 3) := by decide +kernel
theorem dX5_standInsAt_31 : decode cX5_standInsAt 31 = .ok (.ifCond .eq 6, 3) := by decide +kernel
theorem dX5_standInsAt_34 : decode cX5_standInsAt 34 = .ok (.iinc 2 1, 3) := by decide +kernel
theorem dX5_standInsAt_37 : decode cX5_standInsAt 37 = .ok (.iinc 3 1, 3) := by decide +kernel
theorem dX5_standInsAt_40 : decode cX5_standInsAt 40 = .ok (.goto (-36), 3) := by decide +kernel
theorem dX5_standInsAt_43 : decode cX5_standInsAt 43 = .ok (.iload_n 2, 1) := by decide +kernel
theorem dX5_standInsAt_44 : decode cX5_standInsAt 44 = .ok (.ireturn, 1) := by decide +kernel
theorem dX5_dropEndedStandIns_0 : decode cX5_dropEndedStandIns 0 = .ok (.iconst 0, 1) := by decide +kernel
theorem dX5_dropEndedStandIns_1 : decode cX5_dropEndedStandIns 1 = .ok (.istore_n 2, 1) := by decide +kernel
theorem dX5_dropEndedStandIns_2 : decode cX5_dropEndedStandIns 2 = .ok (.iconst 0, 1) := by decide +kernel
theorem dX5_dropEndedStandIns_3 : decode cX5_dropEndedStandIns 3 = .ok (.istore_n 3, 1) := by decide +kernel
theorem dX5_dropEndedStandIns_4 : decode cX5_dropEndedStandIns 4 = .ok (.iload_n 3, 1) := by decide +kernel
theorem dX5_dropEndedStandIns_5 : decode cX5_dropEndedStandIns 5 = .ok (.aload_n 0, 1) := by decide +kernel
theorem dX5_dropEndedStandIns_6 : decode cX5_dropEndedStandIns 6 = .ok (.getfield 49, 3) := by decide +kernel
theorem dX5_dropEndedStandIns_9 : decode cX5_dropEndedStandIns 9 = .ok (.if_icmp .ge 49, 3) := by decide +kernel
theorem dX5_dropEndedStandIns_12 : decode cX5_dropEndedStandIns 12 = .ok (.iload_n 3, 1) := by decide +kernel
theorem dX5_dropEndedStandIns_13 : decode cX5_dropEndedStandIns 13 = .ok (.aload_n 0, 1) := by decide +kernel
theorem dX5_dropEndedStandIns_14 : decode cX5_dropEndedStandIns 14 = .ok (.getfield 25, 3) := by decide +kernel
theorem dX5_dropEndedStandIns_17 : decode cX5_dropEndedStandIns 17 = .ok (.arraylength, 1) := by decide +kernel
theorem dX5_dropEndedStandIns_18 : decode cX5_dropEndedStandIns 18 = .ok (.if_icmp .ge 40, 3) := by decide +kernel
theorem dX5_dropEndedStandIns_21 : decode cX5_dropEndedStandIns 21 = .ok (.aload_n 0, 1) := by decide +kernel
theorem dX5_dropEndedStandIns_22 : decode cX5_dropEndedStandIns 22 = .ok (.getfield 25, 3) := by decide +kernel
theorem dX5_dropEndedStandIns_25 : decode cX5_dropEndedStandIns 25 = .ok (.iload_n 3, 1) := by decide +kernel
theorem dX5_dropEndedStandIns_26 : decode cX5_dropEndedStandIns 26 = .ok (.aaload, 1) := by decide +kernel
theorem dX5_dropEndedStandIns_27 : decode cX5_dropEndedStandIns 27 = .ok (.iload_n 1, 1) := by decide +kernel
theorem dX5_dropEndedStandIns_28 : decode cX5_dropEndedStandIns 28 = .ok (.invokevirtual 97, 3) := by decide +kernel
theorem dX5_dropEndedStandIns_31 : decode cX5_dropEndedStandIns 31 = .ok (.ifCond .eq 21, 3) := by decide +kernel
theorem dX5_dropEndedStandIns_34 : decode cX5_dropEndedStandIns 34 = .ok (.aload_n 0, 1) := by decide +kernel
theorem dX5_dropEndedStandIns_35 : decode cX5_dropEndedStandIns 35 = .ok (.getfield 25, 3) := by decide +kernel
theorem dX5_dropEndedStandIns_38 : decode cX5_dropEndedStandIns 38 = .ok (.iload_n 2, 1) := by decide +kernel
theorem dX5_dropEndedStandIns_39 : decode cX5_dropEndedStandIns 39 = .ok (.aaload, 1) := by decide +kernel
theorem dX5_dropEndedStandIns_40 : decode cX5_dropEndedStandIns 40 = .ok (.aload_n 0, 1) := by decide +kernel
theorem dX5_dropEndedStandIns_41 : decode cX5_dropEndedStandIns 41 = .ok (.getfield 25, 3) := by decide +kernel
theorem dX5_dropEndedStandIns_44 : decode cX5_dropEndedStandIns 44 = .ok (.iload_n 3, 1) := by decide +kernel
theorem dX5_dropEndedStandIns_45 : decode cX5_dropEndedStandIns 45 = .ok (.aaload, 1) := by decide +kernel
theorem dX5_dropEndedStandIns_46 : decode cX5_dropEndedStandIns 46 = .ok (.invokevirtual 39, 3) := by decide +kernel
theorem dX5_dropEndedStandIns_49 : decode cX5_dropEndedStandIns 49 = .ok (.iinc 2 1, 3) := by decide +kernel
theorem dX5_dropEndedStandIns_52 : decode cX5_dropEndedStandIns 52 = .ok (.iinc 3 1, 3) := by decide +kernel
theorem dX5_dropEndedStandIns_55 : decode cX5_dropEndedStandIns 55 = .ok (.goto (-51), 3) := by decide +kernel
theorem dX5_dropEndedStandIns_58 : decode cX5_dropEndedStandIns 58 = .ok (.aload_n 0, 1) := by decide +kernel
theorem dX5_dropEndedStandIns_59 : decode cX5_dropEndedStandIns 59 = .ok (.iload_n 2, 1) := by decide +kernel
theorem dX5_dropEndedStandIns_60 : decode cX5_dropEndedStandIns 60 = .ok (.putfield 49, 3) := by decide +kernel
theorem dX5_dropEndedStandIns_63 : decode cX5_dropEndedStandIns 63 = .ok (.return_, 1) := by decide +kernel
theorem dX5_addStandIn_0 : decode cX5_addStandIn 0 = .ok (.aload_n 0, 1) := by decide +kernel
theorem dX5_addStandIn_1 : decode cX5_addStandIn 1 = .ok (.iload_n 3, 1) := by decide +kernel
theorem dX5_addStandIn_2 : decode cX5_addStandIn 2 = .ok (.invokevirtual 100, 3) := by decide +kernel
theorem dX5_addStandIn_5 : decode cX5_addStandIn 5 = .ok (.aload_n 0, 1) := by decide +kernel
theorem dX5_addStandIn_6 : decode cX5_addStandIn 6 = .ok (.getfield 49, 3) := by decide +kernel
theorem dX5_addStandIn_9 : decode cX5_addStandIn 9 = .ok (.istore 5, 2) := by decide +kernel
theorem dX5_addStandIn_11 : decode cX5_addStandIn 11 = .ok (.iload 5, 2) := by decide +kernel
theorem dX5_addStandIn_13 : decode cX5_addStandIn 13 = .ok (.ifCond .lt 13, 3) := by decide +kernel
theorem dX5_addStandIn_16 : decode cX5_addStandIn 16 = .ok (.iload 5, 2) := by decide +kernel
theorem dX5_addStandIn_18 : decode cX5_addStandIn 18 = .ok (.aload_n 0, 1) := by decide +kernel
theorem dX5_addStandIn_19 : decode cX5_addStandIn 19 = .ok (.getfield 25, 3) := by decide +kernel
theorem dX5_addStandIn_22 : decode cX5_addStandIn 22 = .ok (.arraylength, 1) := by decide +kernel
theorem dX5_addStandIn_23 : decode cX5_addStandIn 23 = .ok (.if_icmp .lt 6, 3) := by decide +kernel
theorem dX5_addStandIn_26 : decode cX5_addStandIn 26 = .ok (.bipush (-3), 2) := by decide +kernel
theorem dX5_addStandIn_28 : decode cX5_addStandIn 28 = .ok (.ireturn, 1) := by decide +kernel
theorem dX5_addStandIn_29 : decode cX5_addStandIn 29 = .ok (.aload_n 0, 1) := by decide +kernel
theorem dX5_addStandIn_30 : decode cX5_addStandIn 30 = .ok (.getfield 25, 3) := by decide +kernel
theorem dX5_addStandIn_33 : decode cX5_addStandIn 33 = .ok (.iload 5, 2) := by decide +kernel
theorem dX5_addStandIn_35 : decode cX5_addStandIn 35 = .ok (.aaload, 1) := by decide +kernel
theorem dX5_addStandIn_36 : decode cX5_addStandIn 36 = .ok (.iload_n 1, 1) := by decide +kernel
theorem dX5_addStandIn_37 : decode cX5_addStandIn 37 = .ok (.putfield 104, 3) := by decide +kernel
theorem dX5_addStandIn_40 : decode cX5_addStandIn 40 = .ok (.aload_n 0, 1) := by decide +kernel
theorem dX5_addStandIn_41 : decode cX5_addStandIn 41 = .ok (.getfield 25, 3) := by decide +kernel
theorem dX5_addStandIn_44 : decode cX5_addStandIn 44 = .ok (.iload 5, 2) := by decide +kernel
theorem dX5_addStandIn_46 : decode cX5_addStandIn 46 = .ok (.aaload, 1) := by decide +kernel
theorem dX5_addStandIn_47 : decode cX5_addStandIn 47 = .ok (.iload_n 2, 1) := by decide +kernel
theorem dX5_addStandIn_48 : decode cX5_addStandIn 48 = .ok (.putfield 107, 3) := by decide +kernel
theorem dX5_addStandIn_51 : decode cX5_addStandIn 51 = .ok (.aload_n 0, 1) := by decide +kernel
theorem dX5_addStandIn_52 : decode cX5_addStandIn 52 = .ok (.getfield 25, 3) := by decide +kernel
theorem dX5_addStandIn_55 : decode cX5_addStandIn 55 = .ok (.iload 5, 2) := by decide +kernel
theorem dX5_addStandIn_57 : decode cX5_addStandIn 57 = .ok (.aaload, 1) := by decide +kernel
theorem dX5_addStandIn_58 : decode cX5_addStandIn 58 = .ok (.iload 4, 2) := by decide +kernel
theorem dX5_addStandIn_60 : decode cX5_addStandIn 60 = .ok (.putfield 110, 3) := by decide +kernel
theorem dX5_addStandIn_63 : decode cX5_addStandIn 63 = .ok (.aload_n 0, 1) := by decide +kernel
theorem dX5_addStandIn_64 : decode cX5_addStandIn 64 = .ok (.dup, 1) := by decide +kernel
theorem dX5_addStandIn_65 : decode cX5_addStandIn 65 = .ok (.getfield 49, 3) := by decide +kernel
theorem dX5_addStandIn_68 : decode cX5_addStandIn 68 = .ok (.iconst 1, 1) := by decide +kernel
theorem dX5_addStandIn_69 : decode cX5_addStandIn 69 = .ok (.iadd, 1) := by decide +kernel
theorem dX5_addStandIn_70 : decode cX5_addStandIn 70 = .ok (.putfield 49, 3) := by decide +kernel
theorem dX5_addStandIn_73 : decode cX5_addStandIn 73 = .ok (.aload_n 0, 1) := by decide +kernel
theorem dX5_addStandIn_74 : decode cX5_addStandIn 74 = .ok (.getfield 49, 3) := by decide +kernel
theorem dX5_addStandIn_77 : decode cX5_addStandIn 77 = .ok (.ireturn, 1) := by decide +kernel
theorem dX5_regionAt_0 : decode cX5_regionAt 0 = .ok (.iload_n 1, 1) := by decide +kernel
theorem dX5_regionAt_1 : decode cX5_regionAt 1 = .ok (.invokestatic 113, 3) := by decide +kernel
theorem dX5_regionAt_4 : decode cX5_regionAt 4 = .ok (.istore_n 2, 1) := by decide +kernel
theorem dX5_regionAt_5 : decode cX5_regionAt 5 = .ok (.iconst 0, 1) := by decide +kernel
theorem dX5_regionAt_6 : decode cX5_regionAt 6 = .ok (.istore_n 3, 1) := by decide +kernel
theorem dX5_regionAt_7 : decode cX5_regionAt 7 = .ok (.iload_n 3, 1) := by decide +kernel
theorem dX5_regionAt_8 : decode cX5_regionAt 8 = .ok (.aload_n 0, 1) := by decide +kernel
theorem dX5_regionAt_9 : decode cX5_regionAt 9 = .ok (.getfield 46, 3) := by decide +kernel
theorem dX5_regionAt_12 : decode cX5_regionAt 12 = .ok (.if_icmp .ge 33, 3) := by decide +kernel
theorem dX5_regionAt_15 : decode cX5_regionAt 15 = .ok (.iload_n 3, 1) := by decide +kernel
theorem dX5_regionAt_16 : decode cX5_regionAt 16 = .ok (.aload_n 0, 1) := by decide +kernel
theorem dX5_regionAt_17 : decode cX5_regionAt 17 = .ok (.getfield 19, 3) := by decide +kernel
theorem dX5_regionAt_20 : decode cX5_regionAt 20 = .ok (.arraylength, 1) := by decide +kernel
theorem dX5_regionAt_21 : decode cX5_regionAt 21 = .ok (.if_icmp .ge 24, 3) := by decide +kernel
theorem dX5_regionAt_24 : decode cX5_regionAt 24 = .ok (.aload_n 0, 1) := by decide +kernel
theorem dX5_regionAt_25 : decode cX5_regionAt 25 = .ok (.getfield 19, 3) := by decide +kernel
theorem dX5_regionAt_28 : decode cX5_regionAt 28 = .ok (.iload_n 3, 1) := by decide +kernel
theorem dX5_regionAt_29 : decode cX5_regionAt 29 = .ok (.aaload, 1) := by decide +kernel
theorem dX5_regionAt_30 : decode cX5_regionAt 30 = .ok (.iload_n 2, 1) := by decide +kernel
theorem dX5_regionAt_31 : decode cX5_regionAt 31 = .ok (.invokevirtual 116, 3) := by decide +kernel
theorem dX5_regionAt_34 : decode cX5_regionAt 34 = .ok (.ifCond .eq 5, 3) := by decide +kernel
theorem dX5_regionAt_37 : decode cX5_regionAt 37 = .ok (.iload_n 3, 1) := by decide +kernel
theorem dX5_regionAt_38 : decode cX5_regionAt 38 = .ok (.ireturn, 1) := by decide +kernel
theorem dX5_regionAt_39 : decode cX5_regionAt 39 = .ok (.iinc 3 1, 3) := by decide +kernel
theorem dX5_regionAt_42 : decode cX5_regionAt 42 = .ok (.goto (-35), 3) := by decide +kernel
theorem dX5_regionAt_45 : decode cX5_regionAt 45 = .ok (.iconst (-1), 1) := by decide +kernel
theorem dX5_regionAt_46 : decode cX5_regionAt 46 = .ok (.ireturn, 1) := by decide +kernel
theorem dX5_personAt_0 : decode cX5_personAt 0 = .ok (.iload_n 1, 1) := by decide +kernel
theorem dX5_personAt_1 : decode cX5_personAt 1 = .ok (.ifCond .lt 20, 3) := by decide +kernel
theorem dX5_personAt_4 : decode cX5_personAt 4 = .ok (.iload_n 1, 1) := by decide +kernel
theorem dX5_personAt_5 : decode cX5_personAt 5 = .ok (.aload_n 0, 1) := by decide +kernel
theorem dX5_personAt_6 : decode cX5_personAt 6 = .ok (.getfield 19, 3) := by decide +kernel
theorem dX5_personAt_9 : decode cX5_personAt 9 = .ok (.arraylength, 1) := by decide +kernel
theorem dX5_personAt_10 : decode cX5_personAt 10 = .ok (.if_icmp .ge 11, 3) := by decide +kernel
theorem dX5_personAt_13 : decode cX5_personAt 13 = .ok (.iload_n 3, 1) := by decide +kernel
theorem dX5_personAt_14 : decode cX5_personAt 14 = .ok (.ifCond .lt 7, 3) := by decide +kernel
theorem dX5_personAt_17 : decode cX5_personAt 17 = .ok (.iload_n 2, 1) := by decide +kernel
theorem dX5_personAt_18 : decode cX5_personAt 18 = .ok (.ifCond .ge 5, 3) := by decide +kernel
theorem dX5_personAt_21 : decode cX5_personAt 21 = .ok (.iconst (-1), 1) := by decide +kernel
theorem dX5_personAt_22 : decode cX5_personAt 22 = .ok (.ireturn, 1) := by decide +kernel
theorem dX5_personAt_23 : decode cX5_personAt 23 = .ok (.iload_n 3, 1) := by decide +kernel
theorem dX5_personAt_24 : decode cX5_personAt 24 = .ok (.ifCond .ne 69, 3) := by decide +kernel
theorem dX5_personAt_27 : decode cX5_personAt 27 = .ok (.aload_n 0, 1) := by decide +kernel
theorem dX5_personAt_28 : decode cX5_personAt 28 = .ok (.getfield 49, 3) := by decide +kernel
theorem dX5_personAt_31 : decode cX5_personAt 31 = .ok (.aload_n 0, 1) := by decide +kernel
theorem dX5_personAt_32 : decode cX5_personAt 32 = .ok (.getfield 25, 3) := by decide +kernel
theorem dX5_personAt_35 : decode cX5_personAt 35 = .ok (.arraylength, 1) := by decide +kernel
theorem dX5_personAt_36 : decode cX5_personAt 36 = .ok (.invokestatic 119, 3) := by decide +kernel
theorem dX5_personAt_39 : decode cX5_personAt 39 = .ok (.iconst 1, 1) := by decide +kernel
theorem dX5_personAt_40 : decode cX5_personAt 40 = .ok (.isub, 1) := by decide +kernel
theorem dX5_personAt_41 : decode cX5_personAt 41 = .ok (.istore 4, 2) := by decide +kernel
theorem dX5_personAt_43 : decode cX5_personAt 43 = .ok (.iload 4, 2) := by decide +kernel
theorem dX5_personAt_45 : decode cX5_personAt 45 = .ok (.ifCond .lt 48, 3) := by decide +kernel
theorem dX5_personAt_48 : decode cX5_personAt 48 = .ok (.aload_n 0, 1) := by decide +kernel
theorem dX5_personAt_49 : decode cX5_personAt 49 = .ok (.getfield 25, 3) := by decide +kernel
theorem dX5_personAt_52 : decode cX5_personAt 52 = .ok (.iload 4, 2) := by decide +kernel
theorem dX5_personAt_54 : decode cX5_personAt 54 = .ok (.aaload, 1) := by decide +kernel
theorem dX5_personAt_55 : decode cX5_personAt 55 = .ok (.getfield 104, 3) := by decide +kernel
theorem dX5_personAt_58 : decode cX5_personAt 58 = .ok (.iload_n 1, 1) := by decide +kernel
theorem dX5_personAt_59 : decode cX5_personAt 59 = .ok (.if_icmp .ne 28, 3) := by decide +kernel
theorem dX5_personAt_62 : decode cX5_personAt 62 = .ok (.aload_n 0, 1) := by decide +kernel
theorem dX5_personAt_63 : decode cX5_personAt 63 = .ok (.getfield 25, 3) := by decide +kernel
theorem dX5_personAt_66 : decode cX5_personAt 66 = .ok (.iload 4, 2) := by decide +kernel
theorem dX5_personAt_68 : decode cX5_personAt 68 = .ok (.aaload, 1) := by decide +kernel
theorem dX5_personAt_69 : decode cX5_personAt 69 = .ok (.iload_n 2, 1) := by decide +kernel
theorem dX5_personAt_70 : decode cX5_personAt 70 = .ok (.invokevirtual 97, 3) := by decide +kernel
theorem dX5_personAt_73 : decode cX5_personAt 73 = .ok (.ifCond .eq 14, 3) := by decide +kernel
theorem dX5_personAt_76 : decode cX5_personAt 76 = .ok (.aload_n 0, 1) := by decide +kernel
theorem dX5_personAt_77 : decode cX5_personAt 77 = .ok (.getfield 25, 3) := by decide +kernel
theorem dX5_personAt_80 : decode cX5_personAt 80 = .ok (.iload 4, 2) := by decide +kernel
theorem dX5_personAt_82 : decode cX5_personAt 82 = .ok (.aaload, 1) := by decide +kernel
theorem dX5_personAt_83 : decode cX5_personAt 83 = .ok (.getfield 107, 3) := by decide +kernel
theorem dX5_personAt_86 : decode cX5_personAt 86 = .ok (.ireturn, 1) := by decide +kernel
theorem dX5_personAt_87 : decode cX5_personAt 87 = .ok (.iinc 4 (-1), 3) := by decide +kernel
theorem dX5_personAt_90 : decode cX5_personAt 90 = .ok (.goto (-47), 3) := by decide +kernel
theorem dX5_personAt_93 : decode cX5_personAt 93 = .ok (.aload_n 0, 1) := by decide +kernel
theorem dX5_personAt_94 : decode cX5_personAt 94 = .ok (.getfield 19, 3) := by decide +kernel
theorem dX5_personAt_97 : decode cX5_personAt 97 = .ok (.iload_n 1, 1) := by decide +kernel
theorem dX5_personAt_98 : decode cX5_personAt 98 = .ok (.aaload, 1) := by decide +kernel
theorem dX5_personAt_99 : decode cX5_personAt 99 = .ok (.astore 4, 2) := by decide +kernel
theorem dX5_personAt_101 : decode cX5_personAt 101 = .ok (.aload 4, 2) := by decide +kernel
theorem dX5_personAt_103 : decode cX5_personAt 103 = .ok (.getfield 125, 3) := by decide +kernel
theorem dX5_personAt_106 : decode cX5_personAt 106 = .ok (.iconst 1, 1) := by decide +kernel
theorem dX5_personAt_107 : decode cX5_personAt 107 = .ok (.if_icmp .lt 12, 3) := by decide +kernel
theorem dX5_personAt_110 : decode cX5_personAt 110 = .ok (.aload 4, 2) := by decide +kernel
theorem dX5_personAt_112 : decode cX5_personAt 112 = .ok (.getfield 128, 3) := by decide +kernel
theorem dX5_personAt_115 : decode cX5_personAt 115 = .ok (.iconst 1, 1) := by decide +kernel
theorem dX5_personAt_116 : decode cX5_personAt 116 = .ok (.if_icmp .ge 5, 3) := by decide +kernel
theorem dX5_personAt_119 : decode cX5_personAt 119 = .ok (.iconst (-1), 1) := by decide +kernel
theorem dX5_personAt_120 : decode cX5_personAt 120 = .ok (.ireturn, 1) := by decide +kernel
theorem dX5_personAt_121 : decode cX5_personAt 121 = .ok (.aload 4, 2) := by decide +kernel
theorem dX5_personAt_123 : decode cX5_personAt 123 = .ok (.iload_n 2, 1) := by decide +kernel
theorem dX5_personAt_124 : decode cX5_personAt 124 = .ok (.bipush 60, 2) := by decide +kernel
theorem dX5_personAt_126 : decode cX5_personAt 126 = .ok (.idiv, 1) := by decide +kernel
theorem dX5_personAt_127 : decode cX5_personAt 127 = .ok (.aload 4, 2) := by decide +kernel
theorem dX5_personAt_129 : decode cX5_personAt 129 = .ok (.getfield 125, 3) := by decide +kernel
theorem dX5_personAt_132 : decode cX5_personAt 132 = .ok (.idiv, 1) := by decide +kernel
theorem dX5_personAt_133 : decode cX5_personAt 133 = .ok (.iload_n 3, 1) := by decide +kernel
theorem dX5_personAt_134 : decode cX5_personAt 134 = .ok (.iadd, 1) := by decide +kernel
theorem dX5_personAt_135 : decode cX5_personAt 135 = .ok (.aload 4, 2) := by decide +kernel
theorem dX5_personAt_137 : decode cX5_personAt 137 = .ok (.getfield 128, 3) := by decide +kernel
theorem dX5_personAt_140 : decode cX5_personAt 140 = .ok (.irem, 1) := by decide +kernel
theorem dX5_personAt_141 : decode cX5_personAt 141 = .ok (.invokevirtual 131, 3) := by decide +kernel
theorem dX5_personAt_144 : decode cX5_personAt 144 = .ok (.ireturn, 1) := by decide +kernel
theorem dX6_init_0 : decode cX6_init 0 = .ok (.aload_n 0, 1) := by decide +kernel
theorem dX6_init_1 : decode cX6_init 1 = .ok (.invokespecial 3, 3) := by decide +kernel
theorem dX6_init_4 : decode cX6_init 4 = .ok (.aload_n 0, 1) := by decide +kernel
theorem dX6_init_5 : decode cX6_init 5 = .ok (.bipush 80, 2) := by decide +kernel
theorem dX6_init_7 : decode cX6_init 7 = .ok (.newarray .char, 2) := by decide +kernel
theorem dX6_init_9 : decode cX6_init 9 = .ok (.putfield 9, 3) := by decide +kernel
theorem dX6_init_12 : decode cX6_init 12 = .ok (.aload_n 0, 1) := by decide +kernel
theorem dX6_init_13 : decode cX6_init 13 = .ok (.iconst 3, 1) := by decide +kernel
theorem dX6_init_14 : decode cX6_init 14 = .ok (.newarray .int, 2) := by decide +kernel
theorem dX6_init_16 : decode cX6_init 16 = .ok (.putfield 15, 3) := by decide +kernel
theorem dX6_init_19 : decode cX6_init 19 = .ok (.aload_n 0, 1) := by decide +kernel
theorem dX6_init_20 : decode cX6_init 20 = .ok (.iconst (-1), 1) := by decide +kernel
theorem dX6_init_21 : decode cX6_init 21 = .ok (.putfield 19, 3) := by decide +kernel
theorem dX6_init_24 : decode cX6_init 24 = .ok (.return_, 1) := by decide +kernel
theorem dX6_append_0 : decode cX6_append 0 = .ok (.aload_n 0, 1) := by decide +kernel
theorem dX6_append_1 : decode cX6_append 1 = .ok (.getfield 23, 3) := by decide +kernel
theorem dX6_append_4 : decode cX6_append 4 = .ok (.ifCond .lt 15, 3) := by decide +kernel
theorem dX6_append_7 : decode cX6_append 7 = .ok (.aload_n 0, 1) := by decide +kernel
theorem dX6_append_8 : decode cX6_append 8 = .ok (.getfield 23, 3) := by decide +kernel
theorem dX6_append_11 : decode cX6_append 11 = .ok (.aload_n 0, 1) := by decide +kernel
theorem dX6_append_12 : decode cX6_append 12 = .ok (.getfield 9, 3) := by decide +kernel
theorem dX6_append_15 : decode cX6_append 15 = .ok (.arraylength, 1) := by decide +kernel
theorem dX6_append_16 : decode cX6_append 16 = .ok (.if_icmp .lt 6, 3) := by decide +kernel
theorem dX6_append_19 : decode cX6_append 19 = .ok (.bipush (-3), 2) := by decide +kernel
theorem dX6_append_21 : decode cX6_append 21 = .ok (.ireturn, 1) := by decide +kernel
theorem dX6_append_22 : decode cX6_append 22 = .ok (.aload_n 0, 1) := by decide +kernel
theorem dX6_append_23 : decode cX6_append 23 = .ok (.getfield 9, 3) := by decide +kernel
theorem dX6_append_26 : decode cX6_append 26 = .ok (.aload_n 0, 1) := by decide +kernel
theorem dX6_append_27 : decode cX6_append 27 = .ok (.getfield 23, 3) := by decide +kernel
theorem dX6_append_30 : decode cX6_append 30 = .ok (.iload_n 1, 1) := by decide +kernel
theorem dX6_append_31 : decode cX6_append 31 = .ok (.castore, 1) := by decide +kernel
theorem dX6_append_32 : decode cX6_append 32 = .ok (.aload_n 0, 1) := by decide +kernel
theorem dX6_append_33 : decode cX6_append 33 = .ok (.dup, 1) := by decide +kernel
theorem dX6_append_34 : decode cX6_append 34 = .ok (.getfield 23, 3) := by decide +kernel
theorem dX6_append_37 : decode cX6_append 37 = .ok (.iconst 1, 1) := by decide +kernel
theorem dX6_append_38 : decode cX6_append 38 = .ok (.iadd, 1) := by decide +kernel
theorem dX6_append_39 : decode cX6_append 39 = .ok (.putfield 23, 3) := by decide +kernel
theorem dX6_append_42 : decode cX6_append 42 = .ok (.aload_n 0, 1) := by decide +kernel
theorem dX6_append_43 : decode cX6_append 43 = .ok (.getfield 23, 3) := by decide +kernel
theorem dX6_append_46 : decode cX6_append 46 = .ok (.ireturn, 1) := by decide +kernel
theorem dX6_perform_0 : decode cX6_perform 0 = .ok (.iconst 0, 1) := by decide +kernel
theorem dX6_perform_1 : decode cX6_perform 1 = .ok (.istore_n 2, 1) := by decide +kernel
theorem dX6_perform_2 : decode cX6_perform 2 = .ok (.aload_n 0, 1) := by decide +kernel
theorem dX6_perform_3 : decode cX6_perform 3 = .ok (.iconst 0, 1) := by decide +kernel
theorem dX6_perform_4 : decode cX6_perform 4 = .ok (.putfield 26, 3) := by decide +kernel
theorem dX6_perform_7 : decode cX6_perform 7 = .ok (.aload_n 0, 1) := by decide +kernel
theorem dX6_perform_8 : decode cX6_perform 8 = .ok (.iconst (-1), 1) := by decide +kernel
theorem dX6_perform_9 : decode cX6_perform 9 = .ok (.putfield 19, 3) := by decide +kernel
theorem dX6_perform_12 : decode cX6_perform 12 = .ok (.iconst 0, 1) := by decide +kernel
theorem dX6_perform_13 : decode cX6_perform 13 = .ok (.istore_n 3, 1) := by decide +kernel
theorem dX6_perform_14 : decode cX6_perform 14 = .ok (.iload_n 3, 1) := by decide +kernel
theorem dX6_perform_15 : decode cX6_perform 15 = .ok (.bipush 80, 2) := by decide +kernel
theorem dX6_perform_17 : decode cX6_perform 17 = .ok (.if_icmp .ge 73, 3) := by decide +kernel
theorem dX6_perform_20 : decode cX6_perform 20 = .ok (.iload_n 2, 1) := by decide +kernel
theorem dX6_perform_21 : decode cX6_perform 21 = .ok (.aload_n 0, 1) := by decide +kernel
theorem dX6_perform_22 : decode cX6_perform 22 = .ok (.getfield 23, 3) := by decide +kernel
theorem dX6_perform_25 : decode cX6_perform 25 = .ok (.if_icmp .ge 65, 3) := by decide +kernel
theorem dX6_perform_28 : decode cX6_perform 28 = .ok (.aload_n 0, 1) := by decide +kernel
theorem dX6_perform_29 : decode cX6_perform 29 = .ok (.iload_n 2, 1) := by decide +kernel
theorem dX6_perform_30 : decode cX6_perform 30 = .ok (.invokevirtual 29, 3) := by decide +kernel
theorem dX6_perform_33 : decode cX6_perform 33 = .ok (.istore 4, 2) := by decide +kernel
theorem dX6_perform_35 : decode cX6_perform 35 = .ok (.aload_n 0, 1) := by decide +kernel
theorem dX6_perform_36 : decode cX6_perform 36 = .ok (.iload 4, 2) := by decide +kernel
theorem dX6_perform_38 : decode cX6_perform 38 = .ok (.iconst (-1), 1) := by decide +kernel
theorem dX6_perform_39 : decode cX6_perform 39 = .ok (.if_icmp .ne 7, 3) := by decide +kernel
theorem dX6_perform_42 : decode cX6_perform 42 = .ok (.iconst 1, 1) := by decide +kernel
theorem dX6_perform_43 : decode cX6_perform 43 = .ok (.goto 11, 3) := by decide +kernel
theorem dX6_perform_46 : decode cX6_perform 46 = .ok (.aload_n 0, 1) := by decide +kernel
theorem dX6_perform_47 : decode cX6_perform 47 = .ok (.aload_n 1, 1) := by decide +kernel
theorem dX6_perform_48 : decode cX6_perform 48 = .ok (.invokevirtual 33, 3) := by decide +kernel
theorem dX6_perform_51 : decode cX6_perform 51 = .ok (.invokestatic 37, 3) := by decide +kernel
theorem dX6_perform_54 : decode cX6_perform 54 = .ok (.putfield 19, 3) := by decide +kernel
theorem dX6_perform_57 : decode cX6_perform 57 = .ok (.aload_n 0, 1) := by decide +kernel
theorem dX6_perform_58 : decode cX6_perform 58 = .ok (.getfield 19, 3) := by decide +kernel
theorem dX6_perform_61 : decode cX6_perform 61 = .ok (.iconst (-1), 1) := by decide +kernel
theorem dX6_perform_62 : decode cX6_perform 62 = .ok (.if_icmp .eq 9, 3) := by decide +kernel
theorem dX6_perform_65 : decode cX6_perform 65 = .ok (.aload_n 0, 1) := by decide +kernel
theorem dX6_perform_66 : decode cX6_perform 66 = .ok (.iload_n 2, 1) := by decide +kernel
theorem dX6_perform_67 : decode cX6_perform 67 = .ok (.putfield 40, 3) := by decide +kernel
theorem dX6_perform_70 : decode cX6_perform 70 = .ok (.return_, 1) := by decide +kernel
theorem dX6_perform_71 : decode cX6_perform 71 = .ok (.aload_n 0, 1) := by decide +kernel
theorem dX6_perform_72 : decode cX6_perform 72 = .ok (.dup, 1) := by decide +kernel
theorem dX6_perform_73 : decode cX6_perform 73 = .ok (.getfield 26, 3) := by decide +kernel
theorem dX6_perform_76 : decode cX6_perform 76 = .ok (.iconst 1, 1) := by decide +kernel
theorem dX6_perform_77 : decode cX6_perform 77 = .ok (.iadd, 1) := by decide +kernel
theorem dX6_perform_78 : decode cX6_perform 78 = .ok (.putfield 26, 3) := by decide +kernel
theorem dX6_perform_81 : decode cX6_perform 81 = .ok (.iload 4, 2) := by decide +kernel
theorem dX6_perform_83 : decode cX6_perform 83 = .ok (.istore_n 2, 1) := by decide +kernel
theorem dX6_perform_84 : decode cX6_perform 84 = .ok (.iinc 3 1, 3) := by decide +kernel
theorem dX6_perform_87 : decode cX6_perform 87 = .ok (.goto (-73), 3) := by decide +kernel
theorem dX6_perform_90 : decode cX6_perform 90 = .ok (.return_, 1) := by decide +kernel
theorem dX6_reasonOf_0 : decode cX6_reasonOf 0 = .ok (.iload_n 0, 1) := by decide +kernel
theorem dX6_reasonOf_1 : decode cX6_reasonOf 1 = .ok (.ifCond .lt 5, 3) := by decide +kernel
theorem dX6_reasonOf_4 : decode cX6_reasonOf 4 = .ok (.iconst (-1), 1) := by decide +kernel
theorem dX6_reasonOf_5 : decode cX6_reasonOf 5 = .ok (.ireturn, 1) := by decide +kernel
theorem dX6_reasonOf_6 : decode cX6_reasonOf 6 = .ok (.iload_n 0, 1) := by decide +kernel
theorem dX6_reasonOf_7 : decode cX6_reasonOf 7 = .ok (.iconst (-1), 1) := by decide +kernel
theorem dX6_reasonOf_8 : decode cX6_reasonOf 8 = .ok (.if_icmp .ne 7, 3) := by decide +kernel
theorem dX6_reasonOf_11 : decode cX6_reasonOf 11 = .ok (.iconst 2, 1) := by decide +kernel
theorem dX6_reasonOf_12 : decode cX6_reasonOf 12 = .ok (.goto 4, 3) := by decide +kernel
theorem dX6_reasonOf_15 : decode cX6_reasonOf 15 = .ok (.iconst 3, 1) := by decide +kernel
theorem dX6_reasonOf_16 : decode cX6_reasonOf 16 = .ok (.ireturn, 1) := by decide +kernel
theorem dX6_obey_0 : decode cX6_obey 0 = .ok (.aload_n 0, 1) := by decide +kernel
theorem dX6_obey_1 : decode cX6_obey 1 = .ok (.getfield 43, 3) := by decide +kernel
theorem dX6_obey_4 : decode cX6_obey 4 = .ok (.lookupswitch 125 #[(97, 52), (107, 69), (111, 91), (114, 80), (116, 114)], 52) := by decide +kernel
theorem dX6_obey_56 : decode cX6_obey 56 = .ok (.aload_n 1, 1) := by decide +kernel
theorem dX6_obey_57 : decode cX6_obey 57 = .ok (.aload_n 0, 1) := by decide +kernel
theorem dX6_obey_58 : decode cX6_obey 58 = .ok (.getfield 15, 3) := by decide +kernel
theorem dX6_obey_61 : decode cX6_obey 61 = .ok (.iconst 0, 1) := by decide +kernel
theorem dX6_obey_62 : decode cX6_obey 62 = .ok (.iaload, 1) := by decide +kernel
theorem dX6_obey_63 : decode cX6_obey 63 = .ok (.aload_n 0, 1) := by decide +kernel
theorem dX6_obey_64 : decode cX6_obey 64 = .ok (.getfield 15, 3) := by decide +kernel
theorem dX6_obey_67 : decode cX6_obey 67 = .ok (.iconst 1, 1) := by decide +kernel
theorem dX6_obey_68 : decode cX6_obey 68 = .ok (.iaload, 1) := by decide +kernel
theorem dX6_obey_69 : decode cX6_obey 69 = .ok (.invokevirtual 46, 3) := by decide +kernel
theorem dX6_obey_72 : decode cX6_obey 72 = .ok (.ireturn, 1) := by decide +kernel
theorem dX6_obey_73 : decode cX6_obey 73 = .ok (.aload_n 1, 1) := by decide +kernel
theorem dX6_obey_74 : decode cX6_obey 74 = .ok (.aload_n 0, 1) := by decide +kernel
theorem dX6_obey_75 : decode cX6_obey 75 = .ok (.getfield 15, 3) := by decide +kernel
theorem dX6_obey_78 : decode cX6_obey 78 = .ok (.iconst 0, 1) := by decide +kernel
theorem dX6_obey_79 : decode cX6_obey 79 = .ok (.iaload, 1) := by decide +kernel
theorem dX6_obey_80 : decode cX6_obey 80 = .ok (.invokevirtual 52, 3) := by decide +kernel
theorem dX6_obey_83 : decode cX6_obey 83 = .ok (.ireturn, 1) := by decide +kernel
theorem dX6_obey_84 : decode cX6_obey 84 = .ok (.aload_n 1, 1) := by decide +kernel
theorem dX6_obey_85 : decode cX6_obey 85 = .ok (.aload_n 0, 1) := by decide +kernel
theorem dX6_obey_86 : decode cX6_obey 86 = .ok (.getfield 15, 3) := by decide +kernel
theorem dX6_obey_89 : decode cX6_obey 89 = .ok (.iconst 0, 1) := by decide +kernel
theorem dX6_obey_90 : decode cX6_obey 90 = .ok (.iaload, 1) := by decide +kernel
theorem dX6_obey_91 : decode cX6_obey 91 = .ok (.invokevirtual 55, 3) := by decide +kernel
theorem dX6_obey_94 : decode cX6_obey 94 = .ok (.ireturn, 1) := by decide +kernel
theorem dX6_obey_95 : decode cX6_obey 95 = .ok (.aload_n 1, 1) := by decide +kernel
theorem dX6_obey_96 : decode cX6_obey 96 = .ok (.aload_n 0, 1) := by decide +kernel
theorem dX6_obey_97 : decode cX6_obey 97 = .ok (.getfield 15, 3) := by decide +kernel
theorem dX6_obey_100 : decode cX6_obey 100 = .ok (.iconst 0, 1) := by decide +kernel
theorem dX6_obey_101 : decode cX6_obey 101 = .ok (.iaload, 1) := by decide +kernel
theorem dX6_obey_102 : decode cX6_obey 102 = .ok (.aload_n 0, 1) := by decide +kernel
theorem dX6_obey_103 : decode cX6_obey 103 = .ok (.getfield 15, 3) := by decide +kernel
theorem dX6_obey_106 : decode cX6_obey 106 = .ok (.iconst 1, 1) := by decide +kernel
theorem dX6_obey_107 : decode cX6_obey 107 = .ok (.iaload, 1) := by decide +kernel
theorem dX6_obey_108 : decode cX6_obey 108 = .ok (.aload_n 0, 1) := by decide +kernel
theorem dX6_obey_109 : decode cX6_obey 109 = .ok (.getfield 15, 3) := by decide +kernel
theorem dX6_obey_112 : decode cX6_obey 112 = .ok (.iconst 2, 1) := by decide +kernel
theorem dX6_obey_113 : decode cX6_obey 113 = .ok (.iaload, 1) := by decide +kernel
theorem dX6_obey_114 : decode cX6_obey 114 = .ok (.invokevirtual 58, 3) := by decide +kernel
theorem dX6_obey_117 : decode cX6_obey 117 = .ok (.ireturn, 1) := by decide +kernel
theorem dX6_obey_118 : decode cX6_obey 118 = .ok (.aload_n 1, 1) := by decide +kernel
theorem dX6_obey_119 : decode cX6_obey 119 = .ok (.aload_n 0, 1) := by decide +kernel
theorem dX6_obey_120 : decode cX6_obey 120 = .ok (.getfield 15, 3) := by decide +kernel
theorem dX6_obey_123 : decode cX6_obey 123 = .ok (.iconst 0, 1) := by decide +kernel
theorem dX6_obey_124 : decode cX6_obey 124 = .ok (.iaload, 1) := by decide +kernel
theorem dX6_obey_125 : decode cX6_obey 125 = .ok (.invokevirtual 62, 3) := by decide +kernel
theorem dX6_obey_128 : decode cX6_obey 128 = .ok (.ireturn, 1) := by decide +kernel
theorem dX6_obey_129 : decode cX6_obey 129 = .ok (.iconst (-1), 1) := by decide +kernel
theorem dX6_obey_130 : decode cX6_obey 130 = .ok (.ireturn, 1) := by decide +kernel
theorem dX6_readCommand_0 : decode cX6_readCommand 0 = .ok (.aload_n 0, 1) := by decide +kernel
theorem dX6_readCommand_1 : decode cX6_readCommand 1 = .ok (.aload_n 0, 1) := by decide +kernel
theorem dX6_readCommand_2 : decode cX6_readCommand 2 = .ok (.iload_n 1, 1) := by decide +kernel
theorem dX6_readCommand_3 : decode cX6_readCommand 3 = .ok (.invokevirtual 65, 3) := by decide +kernel
theorem dX6_readCommand_6 : decode cX6_readCommand 6 = .ok (.putfield 43, 3) := by decide +kernel
theorem dX6_readCommand_9 : decode cX6_readCommand 9 = .ok (.aload_n 0, 1) := by decide +kernel
theorem dX6_readCommand_10 : decode cX6_readCommand 10 = .ok (.getfield 43, 3) := by decide +kernel
theorem dX6_readCommand_13 : decode cX6_readCommand 13 = .ok (.invokestatic 69, 3) := by decide +kernel
theorem dX6_readCommand_16 : decode cX6_readCommand 16 = .ok (.istore_n 2, 1) := by decide +kernel
theorem dX6_readCommand_17 : decode cX6_readCommand 17 = .ok (.iload_n 2, 1) := by decide +kernel
theorem dX6_readCommand_18 : decode cX6_readCommand 18 = .ok (.ifCond .ne 5, 3) := by decide +kernel
theorem dX6_readCommand_21 : decode cX6_readCommand 21 = .ok (.iconst (-1), 1) := by decide +kernel
theorem dX6_readCommand_22 : decode cX6_readCommand 22 = .ok (.ireturn, 1) := by decide +kernel
theorem dX6_readCommand_23 : decode cX6_readCommand 23 = .ok (.iload_n 1, 1) := by decide +kernel
theorem dX6_readCommand_24 : decode cX6_readCommand 24 = .ok (.iconst 1, 1) := by decide +kernel
theorem dX6_readCommand_25 : decode cX6_readCommand 25 = .ok (.iadd, 1) := by decide +kernel
theorem dX6_readCommand_26 : decode cX6_readCommand 26 = .ok (.istore_n 3, 1) := by decide +kernel
theorem dX6_readCommand_27 : decode cX6_readCommand 27 = .ok (.iconst 0, 1) := by decide +kernel
theorem dX6_readCommand_28 : decode cX6_readCommand 28 = .ok (.istore 4, 2) := by decide +kernel
theorem dX6_readCommand_30 : decode cX6_readCommand 30 = .ok (.iload 4, 2) := by decide +kernel
theorem dX6_readCommand_32 : decode cX6_readCommand 32 = .ok (.iload_n 2, 1) := by decide +kernel
theorem dX6_readCommand_33 : decode cX6_readCommand 33 = .ok (.if_icmp .ge 37, 3) := by decide +kernel
theorem dX6_readCommand_36 : decode cX6_readCommand 36 = .ok (.iload_n 3, 1) := by decide +kernel
theorem dX6_readCommand_37 : decode cX6_readCommand 37 = .ok (.iconst (-1), 1) := by decide +kernel
theorem dX6_readCommand_38 : decode cX6_readCommand 38 = .ok (.if_icmp .eq 32, 3) := by decide +kernel
theorem dX6_readCommand_41 : decode cX6_readCommand 41 = .ok (.aload_n 0, 1) := by decide +kernel
theorem dX6_readCommand_42 : decode cX6_readCommand 42 = .ok (.iload_n 3, 1) := by decide +kernel
theorem dX6_readCommand_43 : decode cX6_readCommand 43 = .ok (.iload 4, 2) := by decide +kernel
theorem dX6_readCommand_45 : decode cX6_readCommand 45 = .ok (.iload 4, 2) := by decide +kernel
theorem dX6_readCommand_47 : decode cX6_readCommand 47 = .ok (.iconst 1, 1) := by decide +kernel
theorem dX6_readCommand_48 : decode cX6_readCommand 48 = .ok (.iadd, 1) := by decide +kernel
theorem dX6_readCommand_49 : decode cX6_readCommand 49 = .ok (.iload_n 2, 1) := by decide +kernel
theorem dX6_readCommand_50 : decode cX6_readCommand 50 = .ok (.if_icmp .ge 8, 3) := by decide +kernel
theorem dX6_readCommand_53 : decode cX6_readCommand 53 = .ok (.bipush 44, 2) := by decide +kernel
theorem dX6_readCommand_55 : decode cX6_readCommand 55 = .ok (.goto 5, 3) := by decide +kernel
theorem dX6_readCommand_58 : decode cX6_readCommand 58 = .ok (.bipush 59, 2) := by decide +kernel
theorem dX6_readCommand_60 : decode cX6_readCommand 60 = .ok (.invokevirtual 72, 3) := by decide +kernel
theorem dX6_readCommand_63 : decode cX6_readCommand 63 = .ok (.istore_n 3, 1) := by decide +kernel
theorem dX6_readCommand_64 : decode cX6_readCommand 64 = .ok (.iinc 4 1, 3) := by decide +kernel
theorem dX6_readCommand_67 : decode cX6_readCommand 67 = .ok (.goto (-37), 3) := by decide +kernel
theorem dX6_readCommand_70 : decode cX6_readCommand 70 = .ok (.iload_n 3, 1) := by decide +kernel
theorem dX6_readCommand_71 : decode cX6_readCommand 71 = .ok (.ireturn, 1) := by decide +kernel
theorem dX6_readNumber_0 : decode cX6_readNumber 0 = .ok (.iconst 0, 1) := by decide +kernel
theorem dX6_readNumber_1 : decode cX6_readNumber 1 = .ok (.istore 4, 2) := by decide +kernel
theorem dX6_readNumber_3 : decode cX6_readNumber 3 = .ok (.iload_n 1, 1) := by decide +kernel
theorem dX6_readNumber_4 : decode cX6_readNumber 4 = .ok (.istore 5, 2) := by decide +kernel
theorem dX6_readNumber_6 : decode cX6_readNumber 6 = .ok (.iload 5, 2) := by decide +kernel
theorem dX6_readNumber_8 : decode cX6_readNumber 8 = .ok (.iload_n 1, 1) := by decide +kernel
theorem dX6_readNumber_9 : decode cX6_readNumber 9 = .ok (.iconst 3, 1) := by decide +kernel
theorem dX6_readNumber_10 : decode cX6_readNumber 10 = .ok (.iadd, 1) := by decide +kernel
theorem dX6_readNumber_11 : decode cX6_readNumber 11 = .ok (.if_icmp .ge 38, 3) := by decide +kernel
theorem dX6_readNumber_14 : decode cX6_readNumber 14 = .ok (.aload_n 0, 1) := by decide +kernel
theorem dX6_readNumber_15 : decode cX6_readNumber 15 = .ok (.iload 5, 2) := by decide +kernel
theorem dX6_readNumber_17 : decode cX6_readNumber 17 = .ok (.invokevirtual 65, 3) := by decide +kernel
theorem dX6_readNumber_20 : decode cX6_readNumber 20 = .ok (.invokestatic 76, 3) := by decide +kernel
theorem dX6_readNumber_23 : decode cX6_readNumber 23 = .ok (.ifCond .eq 26, 3) := by decide +kernel
theorem dX6_readNumber_26 : decode cX6_readNumber 26 = .ok (.iload 4, 2) := by decide +kernel
theorem dX6_readNumber_28 : decode cX6_readNumber 28 = .ok (.bipush 10, 2) := by decide +kernel
theorem dX6_readNumber_30 : decode cX6_readNumber 30 = .ok (.imul, 1) := by decide +kernel
theorem dX6_readNumber_31 : decode cX6_readNumber 31 = .ok (.aload_n 0, 1) := by decide +kernel
theorem dX6_readNumber_32 : decode cX6_readNumber 32 = .ok (.iload 5, 2) := by decide +kernel
theorem dX6_readNumber_34 : decode cX6_readNumber 34 = .ok (.invokevirtual 65, 3) := by decide +kernel
theorem dX6_readNumber_37 : decode cX6_readNumber 37 = .ok (.bipush 48, 2) := by decide +kernel
theorem dX6_readNumber_39 : decode cX6_readNumber 39 = .ok (.isub, 1) := by decide +kernel
theorem dX6_readNumber_40 : decode cX6_readNumber 40 = .ok (.iadd, 1) := by decide +kernel
theorem dX6_readNumber_41 : decode cX6_readNumber 41 = .ok (.istore 4, 2) := by decide +kernel
theorem dX6_readNumber_43 : decode cX6_readNumber 43 = .ok (.iinc 5 1, 3) := by decide +kernel
theorem dX6_readNumber_46 : decode cX6_readNumber 46 = .ok (.goto (-40), 3) := by decide +kernel
theorem dX6_readNumber_49 : decode cX6_readNumber 49 = .ok (.iload 5, 2) := by decide +kernel
theorem dX6_readNumber_51 : decode cX6_readNumber 51 = .ok (.iload_n 1, 1) := by decide +kernel
theorem dX6_readNumber_52 : decode cX6_readNumber 52 = .ok (.if_icmp .eq 26, 3) := by decide +kernel
theorem dX6_readNumber_55 : decode cX6_readNumber 55 = .ok (.aload_n 0, 1) := by decide +kernel
theorem dX6_readNumber_56 : decode cX6_readNumber 56 = .ok (.iload 5, 2) := by decide +kernel
theorem dX6_readNumber_58 : decode cX6_readNumber 58 = .ok (.invokevirtual 65, 3) := by decide +kernel
theorem dX6_readNumber_61 : decode cX6_readNumber 61 = .ok (.iload_n 3, 1) := by decide +kernel
theorem dX6_readNumber_62 : decode cX6_readNumber 62 = .ok (.if_icmp .ne 16, 3) := by decide +kernel
theorem dX6_readNumber_65 : decode cX6_readNumber 65 = .ok (.iload_n 2, 1) := by decide +kernel
theorem dX6_readNumber_66 : decode cX6_readNumber 66 = .ok (.ifCond .lt 12, 3) := by decide +kernel
theorem dX6_readNumber_69 : decode cX6_readNumber 69 = .ok (.iload_n 2, 1) := by decide +kernel
theorem dX6_readNumber_70 : decode cX6_readNumber 70 = .ok (.aload_n 0, 1) := by decide +kernel
theorem dX6_readNumber_71 : decode cX6_readNumber 71 = .ok (.getfield 15, 3) := by decide +kernel
theorem dX6_readNumber_74 : decode cX6_readNumber 74 = .ok (.arraylength, 1) := by decide +kernel
theorem dX6_readNumber_75 : decode cX6_readNumber 75 = .ok (.if_icmp .lt 5, 3) := by decide +kernel
theorem dX6_readNumber_78 : decode cX6_readNumber 78 = .ok (.iconst (-1), 1) := by decide +kernel
theorem dX6_readNumber_79 : decode cX6_readNumber 79 = .ok (.ireturn, 1) := by decide +kernel
theorem dX6_readNumber_80 : decode cX6_readNumber 80 = .ok (.aload_n 0, 1) := by decide +kernel
theorem dX6_readNumber_81 : decode cX6_readNumber 81 = .ok (.getfield 15, 3) := by decide +kernel
theorem dX6_readNumber_84 : decode cX6_readNumber 84 = .ok (.iload_n 2, 1) := by decide +kernel
theorem dX6_readNumber_85 : decode cX6_readNumber 85 = .ok (.iload 4, 2) := by decide +kernel
theorem dX6_readNumber_87 : decode cX6_readNumber 87 = .ok (.iastore, 1) := by decide +kernel
theorem dX6_readNumber_88 : decode cX6_readNumber 88 = .ok (.iload 5, 2) := by decide +kernel
theorem dX6_readNumber_90 : decode cX6_readNumber 90 = .ok (.iconst 1, 1) := by decide +kernel
theorem dX6_readNumber_91 : decode cX6_readNumber 91 = .ok (.iadd, 1) := by decide +kernel
theorem dX6_readNumber_92 : decode cX6_readNumber 92 = .ok (.ireturn, 1) := by decide +kernel
theorem dX6_signAt_0 : decode cX6_signAt 0 = .ok (.iload_n 1, 1) := by decide +kernel
theorem dX6_signAt_1 : decode cX6_signAt 1 = .ok (.ifCond .lt 29, 3) := by decide +kernel
theorem dX6_signAt_4 : decode cX6_signAt 4 = .ok (.iload_n 1, 1) := by decide +kernel
theorem dX6_signAt_5 : decode cX6_signAt 5 = .ok (.aload_n 0, 1) := by decide +kernel
theorem dX6_signAt_6 : decode cX6_signAt 6 = .ok (.getfield 23, 3) := by decide +kernel
theorem dX6_signAt_9 : decode cX6_signAt 9 = .ok (.if_icmp .ge 21, 3) := by decide +kernel
theorem dX6_signAt_12 : decode cX6_signAt 12 = .ok (.iload_n 1, 1) := by decide +kernel
theorem dX6_signAt_13 : decode cX6_signAt 13 = .ok (.aload_n 0, 1) := by decide +kernel
theorem dX6_signAt_14 : decode cX6_signAt 14 = .ok (.getfield 9, 3) := by decide +kernel
theorem dX6_signAt_17 : decode cX6_signAt 17 = .ok (.arraylength, 1) := by decide +kernel
theorem dX6_signAt_18 : decode cX6_signAt 18 = .ok (.if_icmp .ge 12, 3) := by decide +kernel
theorem dX6_signAt_21 : decode cX6_signAt 21 = .ok (.aload_n 0, 1) := by decide +kernel
theorem dX6_signAt_22 : decode cX6_signAt 22 = .ok (.getfield 9, 3) := by decide +kernel
theorem dX6_signAt_25 : decode cX6_signAt 25 = .ok (.iload_n 1, 1) := by decide +kernel
theorem dX6_signAt_26 : decode cX6_signAt 26 = .ok (.caload, 1) := by decide +kernel
theorem dX6_signAt_27 : decode cX6_signAt 27 = .ok (.goto 4, 3) := by decide +kernel
theorem dX6_signAt_30 : decode cX6_signAt 30 = .ok (.iconst 0, 1) := by decide +kernel
theorem dX6_signAt_31 : decode cX6_signAt 31 = .ok (.ireturn, 1) := by decide +kernel
theorem dX6_isDigit_0 : decode cX6_isDigit 0 = .ok (.iload_n 0, 1) := by decide +kernel
theorem dX6_isDigit_1 : decode cX6_isDigit 1 = .ok (.bipush 48, 2) := by decide +kernel
theorem dX6_isDigit_3 : decode cX6_isDigit 3 = .ok (.if_icmp .lt 13, 3) := by decide +kernel
theorem dX6_isDigit_6 : decode cX6_isDigit 6 = .ok (.iload_n 0, 1) := by decide +kernel
theorem dX6_isDigit_7 : decode cX6_isDigit 7 = .ok (.bipush 57, 2) := by decide +kernel
theorem dX6_isDigit_9 : decode cX6_isDigit 9 = .ok (.if_icmp .gt 7, 3) := by decide +kernel
theorem dX6_isDigit_12 : decode cX6_isDigit 12 = .ok (.iconst 1, 1) := by decide +kernel
theorem dX6_isDigit_13 : decode cX6_isDigit 13 = .ok (.goto 4, 3) := by decide +kernel
theorem dX6_isDigit_16 : decode cX6_isDigit 16 = .ok (.iconst 0, 1) := by decide +kernel
theorem dX6_isDigit_17 : decode cX6_isDigit 17 = .ok (.ireturn, 1) := by decide +kernel
theorem dX6_numbersAfter_0 : decode cX6_numbersAfter 0 = .ok (.iload_n 0, 1) := by decide +kernel
theorem dX6_numbersAfter_1 : decode cX6_numbersAfter 1 = .ok (.lookupswitch 57 #[(97, 53), (107, 51), (111, 55), (114, 51), (116, 51)], 51) := by decide +kernel
theorem dX6_numbersAfter_52 : decode cX6_numbersAfter 52 = .ok (.iconst 1, 1) := by decide +kernel
theorem dX6_numbersAfter_53 : decode cX6_numbersAfter 53 = .ok (.ireturn, 1) := by decide +kernel
theorem dX6_numbersAfter_54 : decode cX6_numbersAfter 54 = .ok (.iconst 2, 1) := by decide +kernel
theorem dX6_numbersAfter_55 : decode cX6_numbersAfter 55 = .ok (.ireturn, 1) := by decide +kernel
theorem dX6_numbersAfter_56 : decode cX6_numbersAfter 56 = .ok (.iconst 3, 1) := by decide +kernel
theorem dX6_numbersAfter_57 : decode cX6_numbersAfter 57 = .ok (.ireturn, 1) := by decide +kernel
theorem dX6_numbersAfter_58 : decode cX6_numbersAfter 58 = .ok (.iconst 0, 1) := by decide +kernel
theorem dX6_numbersAfter_59 : decode cX6_numbersAfter 59 = .ok (.ireturn, 1) := by decide +kernel
theorem dX7_init_0 : decode cX7_init 0 = .ok (.aload_n 0, 1) := by decide +kernel
theorem dX7_init_1 : decode cX7_init 1 = .ok (.invokespecial 3, 3) := by decide +kernel
theorem dX7_init_4 : decode cX7_init 4 = .ok (.return_, 1) := by decide +kernel
theorem dX7_put_0 : decode cX7_put 0 = .ok (.aload_n 0, 1) := by decide +kernel
theorem dX7_put_1 : decode cX7_put 1 = .ok (.iload_n 1, 1) := by decide +kernel
theorem dX7_put_2 : decode cX7_put 2 = .ok (.putfield 9, 3) := by decide +kernel
theorem dX7_put_5 : decode cX7_put 5 = .ok (.aload_n 0, 1) := by decide +kernel
theorem dX7_put_6 : decode cX7_put 6 = .ok (.iload_n 2, 1) := by decide +kernel
theorem dX7_put_7 : decode cX7_put 7 = .ok (.putfield 15, 3) := by decide +kernel
theorem dX7_put_10 : decode cX7_put 10 = .ok (.return_, 1) := by decide +kernel
theorem dX7_has_0 : decode cX7_has 0 = .ok (.aload_n 0, 1) := by decide +kernel
theorem dX7_has_1 : decode cX7_has 1 = .ok (.getfield 9, 3) := by decide +kernel
theorem dX7_has_4 : decode cX7_has 4 = .ok (.aload_n 0, 1) := by decide +kernel
theorem dX7_has_5 : decode cX7_has 5 = .ok (.getfield 15, 3) := by decide +kernel
theorem dX7_has_8 : decode cX7_has 8 = .ok (.if_icmp .gt 25, 3) := by decide +kernel
theorem dX7_has_11 : decode cX7_has 11 = .ok (.iload_n 1, 1) := by decide +kernel
theorem dX7_has_12 : decode cX7_has 12 = .ok (.aload_n 0, 1) := by decide +kernel
theorem dX7_has_13 : decode cX7_has 13 = .ok (.getfield 9, 3) := by decide +kernel
theorem dX7_has_16 : decode cX7_has 16 = .ok (.if_icmp .lt 15, 3) := by decide +kernel
theorem dX7_has_19 : decode cX7_has 19 = .ok (.iload_n 1, 1) := by decide +kernel
theorem dX7_has_20 : decode cX7_has 20 = .ok (.aload_n 0, 1) := by decide +kernel
theorem dX7_has_21 : decode cX7_has 21 = .ok (.getfield 15, 3) := by decide +kernel
theorem dX7_has_24 : decode cX7_has 24 = .ok (.if_icmp .ge 7, 3) := by decide +kernel
theorem dX7_has_27 : decode cX7_has 27 = .ok (.iconst 1, 1) := by decide +kernel
theorem dX7_has_28 : decode cX7_has 28 = .ok (.goto 4, 3) := by decide +kernel
theorem dX7_has_31 : decode cX7_has 31 = .ok (.iconst 0, 1) := by decide +kernel
theorem dX7_has_32 : decode cX7_has 32 = .ok (.ireturn, 1) := by decide +kernel
theorem dX7_has_33 : decode cX7_has 33 = .ok (.iload_n 1, 1) := by decide +kernel
theorem dX7_has_34 : decode cX7_has 34 = .ok (.aload_n 0, 1) := by decide +kernel
theorem dX7_has_35 : decode cX7_has 35 = .ok (.getfield 9, 3) := by decide +kernel
theorem dX7_has_38 : decode cX7_has 38 = .ok (.if_icmp .ge 11, 3) := by decide +kernel
theorem dX7_has_41 : decode cX7_has 41 = .ok (.iload_n 1, 1) := by decide +kernel
theorem dX7_has_42 : decode cX7_has 42 = .ok (.aload_n 0, 1) := by decide +kernel
theorem dX7_has_43 : decode cX7_has 43 = .ok (.getfield 15, 3) := by decide +kernel
theorem dX7_has_46 : decode cX7_has 46 = .ok (.if_icmp .ge 7, 3) := by decide +kernel
theorem dX7_has_49 : decode cX7_has 49 = .ok (.iconst 1, 1) := by decide +kernel
theorem dX7_has_50 : decode cX7_has 50 = .ok (.goto 4, 3) := by decide +kernel
theorem dX7_has_53 : decode cX7_has 53 = .ok (.iconst 0, 1) := by decide +kernel
theorem dX7_has_54 : decode cX7_has 54 = .ok (.ireturn, 1) := by decide +kernel
theorem dX7_hours_0 : decode cX7_hours 0 = .ok (.aload_n 0, 1) := by decide +kernel
theorem dX7_hours_1 : decode cX7_hours 1 = .ok (.getfield 9, 3) := by decide +kernel
theorem dX7_hours_4 : decode cX7_hours 4 = .ok (.aload_n 0, 1) := by decide +kernel
theorem dX7_hours_5 : decode cX7_hours 5 = .ok (.getfield 15, 3) := by decide +kernel
theorem dX7_hours_8 : decode cX7_hours 8 = .ok (.if_icmp .gt 15, 3) := by decide +kernel
theorem dX7_hours_11 : decode cX7_hours 11 = .ok (.aload_n 0, 1) := by decide +kernel
theorem dX7_hours_12 : decode cX7_hours 12 = .ok (.getfield 15, 3) := by decide +kernel
theorem dX7_hours_15 : decode cX7_hours 15 = .ok (.aload_n 0, 1) := by decide +kernel
theorem dX7_hours_16 : decode cX7_hours 16 = .ok (.getfield 9, 3) := by decide +kernel
theorem dX7_hours_19 : decode cX7_hours 19 = .ok (.isub, 1) := by decide +kernel
theorem dX7_hours_20 : decode cX7_hours 20 = .ok (.goto 15, 3) := by decide +kernel
theorem dX7_hours_23 : decode cX7_hours 23 = .ok (.aload_n 0, 1) := by decide +kernel
theorem dX7_hours_24 : decode cX7_hours 24 = .ok (.getfield 15, 3) := by decide +kernel
theorem dX7_hours_27 : decode cX7_hours 27 = .ok (.aload_n 0, 1) := by decide +kernel
theorem dX7_hours_28 : decode cX7_hours 28 = .ok (.getfield 9, 3) := by decide +kernel
theorem dX7_hours_31 : decode cX7_hours 31 = .ok (.isub, 1) := by decide +kernel
theorem dX7_hours_32 : decode cX7_hours 32 = .ok (.bipush 24, 2) := by decide +kernel
theorem dX7_hours_34 : decode cX7_hours 34 = .ok (.iadd, 1) := by decide +kernel
theorem dX7_hours_35 : decode cX7_hours 35 = .ok (.ireturn, 1) := by decide +kernel
theorem dX7_isHour_0 : decode cX7_isHour 0 = .ok (.iload_n 0, 1) := by decide +kernel
theorem dX7_isHour_1 : decode cX7_isHour 1 = .ok (.ifCond .lt 13, 3) := by decide +kernel
theorem dX7_isHour_4 : decode cX7_isHour 4 = .ok (.iload_n 0, 1) := by decide +kernel
theorem dX7_isHour_5 : decode cX7_isHour 5 = .ok (.bipush 24, 2) := by decide +kernel
theorem dX7_isHour_7 : decode cX7_isHour 7 = .ok (.if_icmp .ge 7, 3) := by decide +kernel
theorem dX7_isHour_10 : decode cX7_isHour 10 = .ok (.iconst 1, 1) := by decide +kernel
theorem dX7_isHour_11 : decode cX7_isHour 11 = .ok (.goto 4, 3) := by decide +kernel
theorem dX7_isHour_14 : decode cX7_isHour 14 = .ok (.iconst 0, 1) := by decide +kernel
theorem dX7_isHour_15 : decode cX7_isHour 15 = .ok (.ireturn, 1) := by decide +kernel
theorem dX8_init_0 : decode cX8_init 0 = .ok (.aload_n 0, 1) := by decide +kernel
theorem dX8_init_1 : decode cX8_init 1 = .ok (.invokespecial 1, 3) := by decide +kernel
theorem dX8_init_4 : decode cX8_init 4 = .ok (.return_, 1) := by decide +kernel
theorem dX8_copyFrom_0 : decode cX8_copyFrom 0 = .ok (.aload_n 0, 1) := by decide +kernel
theorem dX8_copyFrom_1 : decode cX8_copyFrom 1 = .ok (.aload_n 1, 1) := by decide +kernel
theorem dX8_copyFrom_2 : decode cX8_copyFrom 2 = .ok (.getfield 7, 3) := by decide +kernel
theorem dX8_copyFrom_5 : decode cX8_copyFrom 5 = .ok (.putfield 7, 3) := by decide +kernel
theorem dX8_copyFrom_8 : decode cX8_copyFrom 8 = .ok (.aload_n 0, 1) := by decide +kernel
theorem dX8_copyFrom_9 : decode cX8_copyFrom 9 = .ok (.aload_n 1, 1) := by decide +kernel
theorem dX8_copyFrom_10 : decode cX8_copyFrom 10 = .ok (.getfield 13, 3) := by decide +kernel
theorem dX8_copyFrom_13 : decode cX8_copyFrom 13 = .ok (.putfield 13, 3) := by decide +kernel
theorem dX8_copyFrom_16 : decode cX8_copyFrom 16 = .ok (.aload_n 0, 1) := by decide +kernel
theorem dX8_copyFrom_17 : decode cX8_copyFrom 17 = .ok (.aload_n 1, 1) := by decide +kernel
theorem dX8_copyFrom_18 : decode cX8_copyFrom 18 = .ok (.getfield 16, 3) := by decide +kernel
theorem dX8_copyFrom_21 : decode cX8_copyFrom 21 = .ok (.putfield 16, 3) := by decide +kernel
theorem dX8_copyFrom_24 : decode cX8_copyFrom 24 = .ok (.return_, 1) := by decide +kernel
theorem dX8_isInForce_0 : decode cX8_isInForce 0 = .ok (.iload_n 1, 1) := by decide +kernel
theorem dX8_isInForce_1 : decode cX8_isInForce 1 = .ok (.aload_n 0, 1) := by decide +kernel
theorem dX8_isInForce_2 : decode cX8_isInForce 2 = .ok (.getfield 16, 3) := by decide +kernel
theorem dX8_isInForce_5 : decode cX8_isInForce 5 = .ok (.if_icmp .ge 7, 3) := by decide +kernel
theorem dX8_isInForce_8 : decode cX8_isInForce 8 = .ok (.iconst 1, 1) := by decide +kernel
theorem dX8_isInForce_9 : decode cX8_isInForce 9 = .ok (.goto 4, 3) := by decide +kernel
theorem dX8_isInForce_12 : decode cX8_isInForce 12 = .ok (.iconst 0, 1) := by decide +kernel
theorem dX8_isInForce_13 : decode cX8_isInForce 13 = .ok (.ireturn, 1) := by decide +kernel
theorem dX9_init_0 : decode cX9_init 0 = .ok (.aload_n 0, 1) := by decide +kernel
theorem dX9_init_1 : decode cX9_init 1 = .ok (.invokespecial 3, 3) := by decide +kernel
theorem dX9_init_4 : decode cX9_init 4 = .ok (.return_, 1) := by decide +kernel
theorem dX9_copyFrom_0 : decode cX9_copyFrom 0 = .ok (.aload_n 0, 1) := by decide +kernel
theorem dX9_copyFrom_1 : decode cX9_copyFrom 1 = .ok (.aload_n 1, 1) := by decide +kernel
theorem dX9_copyFrom_2 : decode cX9_copyFrom 2 = .ok (.getfield 9, 3) := by decide +kernel
theorem dX9_copyFrom_5 : decode cX9_copyFrom 5 = .ok (.putfield 9, 3) := by decide +kernel
theorem dX9_copyFrom_8 : decode cX9_copyFrom 8 = .ok (.aload_n 0, 1) := by decide +kernel
theorem dX9_copyFrom_9 : decode cX9_copyFrom 9 = .ok (.aload_n 1, 1) := by decide +kernel
theorem dX9_copyFrom_10 : decode cX9_copyFrom 10 = .ok (.getfield 15, 3) := by decide +kernel
theorem dX9_copyFrom_13 : decode cX9_copyFrom 13 = .ok (.putfield 15, 3) := by decide +kernel
theorem dX9_copyFrom_16 : decode cX9_copyFrom 16 = .ok (.aload_n 0, 1) := by decide +kernel
theorem dX9_copyFrom_17 : decode cX9_copyFrom 17 = .ok (.aload_n 1, 1) := by decide +kernel
theorem dX9_copyFrom_18 : decode cX9_copyFrom 18 = .ok (.getfield 18, 3) := by decide +kernel
theorem dX9_copyFrom_21 : decode cX9_copyFrom 21 = .ok (.putfield 18, 3) := by decide +kernel
theorem dX9_copyFrom_24 : decode cX9_copyFrom 24 = .ok (.aload_n 0, 1) := by decide +kernel
theorem dX9_copyFrom_25 : decode cX9_copyFrom 25 = .ok (.aload_n 1, 1) := by decide +kernel
theorem dX9_copyFrom_26 : decode cX9_copyFrom 26 = .ok (.getfield 21, 3) := by decide +kernel
theorem dX9_copyFrom_29 : decode cX9_copyFrom 29 = .ok (.putfield 21, 3) := by decide +kernel
theorem dX9_copyFrom_32 : decode cX9_copyFrom 32 = .ok (.aload_n 0, 1) := by decide +kernel
theorem dX9_copyFrom_33 : decode cX9_copyFrom 33 = .ok (.aload_n 1, 1) := by decide +kernel
theorem dX9_copyFrom_34 : decode cX9_copyFrom 34 = .ok (.getfield 24, 3) := by decide +kernel
theorem dX9_copyFrom_37 : decode cX9_copyFrom 37 = .ok (.putfield 24, 3) := by decide +kernel
theorem dX9_copyFrom_40 : decode cX9_copyFrom 40 = .ok (.aload_n 0, 1) := by decide +kernel
theorem dX9_copyFrom_41 : decode cX9_copyFrom 41 = .ok (.aload_n 1, 1) := by decide +kernel
theorem dX9_copyFrom_42 : decode cX9_copyFrom 42 = .ok (.getfield 27, 3) := by decide +kernel
theorem dX9_copyFrom_45 : decode cX9_copyFrom 45 = .ok (.putfield 27, 3) := by decide +kernel
theorem dX9_copyFrom_48 : decode cX9_copyFrom 48 = .ok (.aload_n 0, 1) := by decide +kernel
theorem dX9_copyFrom_49 : decode cX9_copyFrom 49 = .ok (.aload_n 1, 1) := by decide +kernel
theorem dX9_copyFrom_50 : decode cX9_copyFrom 50 = .ok (.getfield 30, 3) := by decide +kernel
theorem dX9_copyFrom_53 : decode cX9_copyFrom 53 = .ok (.putfield 30, 3) := by decide +kernel
theorem dX9_copyFrom_56 : decode cX9_copyFrom 56 = .ok (.aload_n 0, 1) := by decide +kernel
theorem dX9_copyFrom_57 : decode cX9_copyFrom 57 = .ok (.aload_n 1, 1) := by decide +kernel
theorem dX9_copyFrom_58 : decode cX9_copyFrom 58 = .ok (.getfield 33, 3) := by decide +kernel
theorem dX9_copyFrom_61 : decode cX9_copyFrom 61 = .ok (.putfield 33, 3) := by decide +kernel
theorem dX9_copyFrom_64 : decode cX9_copyFrom 64 = .ok (.aload_n 0, 1) := by decide +kernel
theorem dX9_copyFrom_65 : decode cX9_copyFrom 65 = .ok (.aload_n 1, 1) := by decide +kernel
theorem dX9_copyFrom_66 : decode cX9_copyFrom 66 = .ok (.getfield 36, 3) := by decide +kernel
theorem dX9_copyFrom_69 : decode cX9_copyFrom 69 = .ok (.putfield 36, 3) := by decide +kernel
theorem dX9_copyFrom_72 : decode cX9_copyFrom 72 = .ok (.aload_n 0, 1) := by decide +kernel
theorem dX9_copyFrom_73 : decode cX9_copyFrom 73 = .ok (.aload_n 1, 1) := by decide +kernel
theorem dX9_copyFrom_74 : decode cX9_copyFrom 74 = .ok (.getfield 39, 3) := by decide +kernel
theorem dX9_copyFrom_77 : decode cX9_copyFrom 77 = .ok (.putfield 39, 3) := by decide +kernel
theorem dX9_copyFrom_80 : decode cX9_copyFrom 80 = .ok (.return_, 1) := by decide +kernel
theorem dX9_numbered_0 : decode cX9_numbered 0 = .ok (.iload_n 1, 1) := by decide +kernel
theorem dX9_numbered_1 : decode cX9_numbered 1 = .ok (.tableswitch 78 6 12 #[43, 48, 53, 58, 63, 68, 73], 43) := by decide +kernel
theorem dX9_numbered_44 : decode cX9_numbered 44 = .ok (.aload_n 0, 1) := by decide +kernel
theorem dX9_numbered_45 : decode cX9_numbered 45 = .ok (.getfield 9, 3) := by decide +kernel
theorem dX9_numbered_48 : decode cX9_numbered 48 = .ok (.ireturn, 1) := by decide +kernel
theorem dX9_numbered_49 : decode cX9_numbered 49 = .ok (.aload_n 0, 1) := by decide +kernel
theorem dX9_numbered_50 : decode cX9_numbered 50 = .ok (.getfield 15, 3) := by decide +kernel
theorem dX9_numbered_53 : decode cX9_numbered 53 = .ok (.ireturn, 1) := by decide +kernel
theorem dX9_numbered_54 : decode cX9_numbered 54 = .ok (.aload_n 0, 1) := by decide +kernel
theorem dX9_numbered_55 : decode cX9_numbered 55 = .ok (.getfield 18, 3) := by decide +kernel
theorem dX9_numbered_58 : decode cX9_numbered 58 = .ok (.ireturn, 1) := by decide +kernel
theorem dX9_numbered_59 : decode cX9_numbered 59 = .ok (.aload_n 0, 1) := by decide +kernel
theorem dX9_numbered_60 : decode cX9_numbered 60 = .ok (.getfield 21, 3) := by decide +kernel
theorem dX9_numbered_63 : decode cX9_numbered 63 = .ok (.ireturn, 1) := by decide +kernel
theorem dX9_numbered_64 : decode cX9_numbered 64 = .ok (.aload_n 0, 1) := by decide +kernel
theorem dX9_numbered_65 : decode cX9_numbered 65 = .ok (.getfield 24, 3) := by decide +kernel
theorem dX9_numbered_68 : decode cX9_numbered 68 = .ok (.ireturn, 1) := by decide +kernel
theorem dX9_numbered_69 : decode cX9_numbered 69 = .ok (.aload_n 0, 1) := by decide +kernel
theorem dX9_numbered_70 : decode cX9_numbered 70 = .ok (.getfield 27, 3) := by decide +kernel
theorem dX9_numbered_73 : decode cX9_numbered 73 = .ok (.ireturn, 1) := by decide +kernel
theorem dX9_numbered_74 : decode cX9_numbered 74 = .ok (.aload_n 0, 1) := by decide +kernel
theorem dX9_numbered_75 : decode cX9_numbered 75 = .ok (.getfield 30, 3) := by decide +kernel
theorem dX9_numbered_78 : decode cX9_numbered 78 = .ok (.ireturn, 1) := by decide +kernel
theorem dX9_numbered_79 : decode cX9_numbered 79 = .ok (.iconst (-1), 1) := by decide +kernel
theorem dX9_numbered_80 : decode cX9_numbered 80 = .ok (.ireturn, 1) := by decide +kernel
theorem dX10_init_0 : decode cX10_init 0 = .ok (.aload_n 0, 1) := by decide +kernel
theorem dX10_init_1 : decode cX10_init 1 = .ok (.invokespecial 1, 3) := by decide +kernel
theorem dX10_init_4 : decode cX10_init 4 = .ok (.aload_n 0, 1) := by decide +kernel
theorem dX10_init_5 : decode cX10_init 5 = .ok (.new 7, 3) := by decide +kernel
theorem dX10_init_8 : decode cX10_init 8 = .ok (.dup, 1) := by decide +kernel
theorem dX10_init_9 : decode cX10_init 9 = .ok (.invokespecial 9, 3) := by decide +kernel
theorem dX10_init_12 : decode cX10_init 12 = .ok (.putfield 10, 3) := by decide +kernel
theorem dX10_init_15 : decode cX10_init 15 = .ok (.aload_n 0, 1) := by decide +kernel
theorem dX10_init_16 : decode cX10_init 16 = .ok (.new 7, 3) := by decide +kernel
theorem dX10_init_19 : decode cX10_init 19 = .ok (.dup, 1) := by decide +kernel
theorem dX10_init_20 : decode cX10_init 20 = .ok (.invokespecial 9, 3) := by decide +kernel
theorem dX10_init_23 : decode cX10_init 23 = .ok (.putfield 16, 3) := by decide +kernel
theorem dX10_init_26 : decode cX10_init 26 = .ok (.aload_n 0, 1) := by decide +kernel
theorem dX10_init_27 : decode cX10_init 27 = .ok (.new 19, 3) := by decide +kernel
theorem dX10_init_30 : decode cX10_init 30 = .ok (.dup, 1) := by decide +kernel
theorem dX10_init_31 : decode cX10_init 31 = .ok (.invokespecial 21, 3) := by decide +kernel
theorem dX10_init_34 : decode cX10_init 34 = .ok (.putfield 22, 3) := by decide +kernel
theorem dX10_init_37 : decode cX10_init 37 = .ok (.aload_n 0, 1) := by decide +kernel
theorem dX10_init_38 : decode cX10_init 38 = .ok (.new 26, 3) := by decide +kernel
theorem dX10_init_41 : decode cX10_init 41 = .ok (.dup, 1) := by decide +kernel
theorem dX10_init_42 : decode cX10_init 42 = .ok (.invokespecial 28, 3) := by decide +kernel
theorem dX10_init_45 : decode cX10_init 45 = .ok (.putfield 29, 3) := by decide +kernel
theorem dX10_init_48 : decode cX10_init 48 = .ok (.return_, 1) := by decide +kernel
theorem dX10_person_0 : decode cX10_person 0 = .ok (.aload_n 0, 1) := by decide +kernel
theorem dX10_person_1 : decode cX10_person 1 = .ok (.getfield 22, 3) := by decide +kernel
theorem dX10_person_4 : decode cX10_person 4 = .ok (.aload_n 0, 1) := by decide +kernel
theorem dX10_person_5 : decode cX10_person 5 = .ok (.getfield 10, 3) := by decide +kernel
theorem dX10_person_8 : decode cX10_person 8 = .ok (.invokevirtual 33, 3) := by decide +kernel
theorem dX10_person_11 : decode cX10_person 11 = .ok (.aload_n 0, 1) := by decide +kernel
theorem dX10_person_12 : decode cX10_person 12 = .ok (.aload_n 0, 1) := by decide +kernel
theorem dX10_person_13 : decode cX10_person 13 = .ok (.getfield 10, 3) := by decide +kernel
theorem dX10_person_16 : decode cX10_person 16 = .ok (.getfield 37, 3) := by decide +kernel
theorem dX10_person_19 : decode cX10_person 19 = .ok (.invokevirtual 41, 3) := by decide +kernel
theorem dX10_person_22 : decode cX10_person 22 = .ok (.invokevirtual 47, 3) := by decide +kernel
theorem dX10_person_25 : decode cX10_person 25 = .ok (.ireturn, 1) := by decide +kernel
theorem dX10_region_0 : decode cX10_region 0 = .ok (.aload_n 0, 1) := by decide +kernel
theorem dX10_region_1 : decode cX10_region 1 = .ok (.getfield 22, 3) := by decide +kernel
theorem dX10_region_4 : decode cX10_region 4 = .ok (.aload_n 0, 1) := by decide +kernel
theorem dX10_region_5 : decode cX10_region 5 = .ok (.getfield 10, 3) := by decide +kernel
theorem dX10_region_8 : decode cX10_region 8 = .ok (.invokevirtual 33, 3) := by decide +kernel
theorem dX10_region_11 : decode cX10_region 11 = .ok (.aload_n 0, 1) := by decide +kernel
theorem dX10_region_12 : decode cX10_region 12 = .ok (.aload_n 0, 1) := by decide +kernel
theorem dX10_region_13 : decode cX10_region 13 = .ok (.getfield 10, 3) := by decide +kernel
theorem dX10_region_16 : decode cX10_region 16 = .ok (.getfield 37, 3) := by decide +kernel
theorem dX10_region_19 : decode cX10_region 19 = .ok (.iload_n 1, 1) := by decide +kernel
theorem dX10_region_20 : decode cX10_region 20 = .ok (.iload_n 2, 1) := by decide +kernel
theorem dX10_region_21 : decode cX10_region 21 = .ok (.iload_n 3, 1) := by decide +kernel
theorem dX10_region_22 : decode cX10_region 22 = .ok (.invokevirtual 51, 3) := by decide +kernel
theorem dX10_region_25 : decode cX10_region 25 = .ok (.invokevirtual 47, 3) := by decide +kernel
theorem dX10_region_28 : decode cX10_region 28 = .ok (.ireturn, 1) := by decide +kernel
theorem dX10_join_0 : decode cX10_join 0 = .ok (.aload_n 0, 1) := by decide +kernel
theorem dX10_join_1 : decode cX10_join 1 = .ok (.getfield 22, 3) := by decide +kernel
theorem dX10_join_4 : decode cX10_join 4 = .ok (.aload_n 0, 1) := by decide +kernel
theorem dX10_join_5 : decode cX10_join 5 = .ok (.getfield 10, 3) := by decide +kernel
theorem dX10_join_8 : decode cX10_join 8 = .ok (.invokevirtual 33, 3) := by decide +kernel
theorem dX10_join_11 : decode cX10_join 11 = .ok (.aload_n 0, 1) := by decide +kernel
theorem dX10_join_12 : decode cX10_join 12 = .ok (.aload_n 0, 1) := by decide +kernel
theorem dX10_join_13 : decode cX10_join 13 = .ok (.getfield 10, 3) := by decide +kernel
theorem dX10_join_16 : decode cX10_join 16 = .ok (.getfield 37, 3) := by decide +kernel
theorem dX10_join_19 : decode cX10_join 19 = .ok (.iload_n 1, 1) := by decide +kernel
theorem dX10_join_20 : decode cX10_join 20 = .ok (.iload_n 2, 1) := by decide +kernel
theorem dX10_join_21 : decode cX10_join 21 = .ok (.invokevirtual 55, 3) := by decide +kernel
theorem dX10_join_24 : decode cX10_join 24 = .ok (.invokevirtual 47, 3) := by decide +kernel
theorem dX10_join_27 : decode cX10_join 27 = .ok (.ireturn, 1) := by decide +kernel
theorem dX10_leave_0 : decode cX10_leave 0 = .ok (.aload_n 0, 1) := by decide +kernel
theorem dX10_leave_1 : decode cX10_leave 1 = .ok (.getfield 22, 3) := by decide +kernel
theorem dX10_leave_4 : decode cX10_leave 4 = .ok (.aload_n 0, 1) := by decide +kernel
theorem dX10_leave_5 : decode cX10_leave 5 = .ok (.getfield 10, 3) := by decide +kernel
theorem dX10_leave_8 : decode cX10_leave 8 = .ok (.invokevirtual 33, 3) := by decide +kernel
theorem dX10_leave_11 : decode cX10_leave 11 = .ok (.aload_n 0, 1) := by decide +kernel
theorem dX10_leave_12 : decode cX10_leave 12 = .ok (.aload_n 0, 1) := by decide +kernel
theorem dX10_leave_13 : decode cX10_leave 13 = .ok (.getfield 10, 3) := by decide +kernel
theorem dX10_leave_16 : decode cX10_leave 16 = .ok (.getfield 37, 3) := by decide +kernel
theorem dX10_leave_19 : decode cX10_leave 19 = .ok (.iload_n 1, 1) := by decide +kernel
theorem dX10_leave_20 : decode cX10_leave 20 = .ok (.iload_n 2, 1) := by decide +kernel
theorem dX10_leave_21 : decode cX10_leave 21 = .ok (.invokevirtual 59, 3) := by decide +kernel
theorem dX10_leave_24 : decode cX10_leave 24 = .ok (.invokevirtual 47, 3) := by decide +kernel
theorem dX10_leave_27 : decode cX10_leave 27 = .ok (.ireturn, 1) := by decide +kernel
theorem dX10_quiet_0 : decode cX10_quiet 0 = .ok (.aload_n 0, 1) := by decide +kernel
theorem dX10_quiet_1 : decode cX10_quiet 1 = .ok (.getfield 22, 3) := by decide +kernel
theorem dX10_quiet_4 : decode cX10_quiet 4 = .ok (.aload_n 0, 1) := by decide +kernel
theorem dX10_quiet_5 : decode cX10_quiet 5 = .ok (.getfield 10, 3) := by decide +kernel
theorem dX10_quiet_8 : decode cX10_quiet 8 = .ok (.invokevirtual 33, 3) := by decide +kernel
theorem dX10_quiet_11 : decode cX10_quiet 11 = .ok (.aload_n 0, 1) := by decide +kernel
theorem dX10_quiet_12 : decode cX10_quiet 12 = .ok (.aload_n 0, 1) := by decide +kernel
theorem dX10_quiet_13 : decode cX10_quiet 13 = .ok (.getfield 10, 3) := by decide +kernel
theorem dX10_quiet_16 : decode cX10_quiet 16 = .ok (.getfield 37, 3) := by decide +kernel
theorem dX10_quiet_19 : decode cX10_quiet 19 = .ok (.iload_n 1, 1) := by decide +kernel
theorem dX10_quiet_20 : decode cX10_quiet 20 = .ok (.iload_n 2, 1) := by decide +kernel
theorem dX10_quiet_21 : decode cX10_quiet 21 = .ok (.iload_n 3, 1) := by decide +kernel
theorem dX10_quiet_22 : decode cX10_quiet 22 = .ok (.invokevirtual 62, 3) := by decide +kernel
theorem dX10_quiet_25 : decode cX10_quiet 25 = .ok (.invokevirtual 47, 3) := by decide +kernel
theorem dX10_quiet_28 : decode cX10_quiet 28 = .ok (.ireturn, 1) := by decide +kernel
theorem dX10_except_0 : decode cX10_except 0 = .ok (.aload_n 0, 1) := by decide +kernel
theorem dX10_except_1 : decode cX10_except 1 = .ok (.getfield 22, 3) := by decide +kernel
theorem dX10_except_4 : decode cX10_except 4 = .ok (.aload_n 0, 1) := by decide +kernel
theorem dX10_except_5 : decode cX10_except 5 = .ok (.getfield 10, 3) := by decide +kernel
theorem dX10_except_8 : decode cX10_except 8 = .ok (.invokevirtual 33, 3) := by decide +kernel
theorem dX10_except_11 : decode cX10_except 11 = .ok (.aload_n 0, 1) := by decide +kernel
theorem dX10_except_12 : decode cX10_except 12 = .ok (.aload_n 0, 1) := by decide +kernel
theorem dX10_except_13 : decode cX10_except 13 = .ok (.getfield 10, 3) := by decide +kernel
theorem dX10_except_16 : decode cX10_except 16 = .ok (.getfield 37, 3) := by decide +kernel
theorem dX10_except_19 : decode cX10_except 19 = .ok (.iload_n 1, 1) := by decide +kernel
theorem dX10_except_20 : decode cX10_except 20 = .ok (.iload_n 2, 1) := by decide +kernel
theorem dX10_except_21 : decode cX10_except 21 = .ok (.invokevirtual 65, 3) := by decide +kernel
theorem dX10_except_24 : decode cX10_except 24 = .ok (.invokevirtual 47, 3) := by decide +kernel
theorem dX10_except_27 : decode cX10_except 27 = .ok (.ireturn, 1) := by decide +kernel
theorem dX10_override_0 : decode cX10_override 0 = .ok (.aload_n 0, 1) := by decide +kernel
theorem dX10_override_1 : decode cX10_override 1 = .ok (.getfield 22, 3) := by decide +kernel
theorem dX10_override_4 : decode cX10_override 4 = .ok (.aload_n 0, 1) := by decide +kernel
theorem dX10_override_5 : decode cX10_override 5 = .ok (.getfield 10, 3) := by decide +kernel
theorem dX10_override_8 : decode cX10_override 8 = .ok (.invokevirtual 33, 3) := by decide +kernel
theorem dX10_override_11 : decode cX10_override 11 = .ok (.aload_n 0, 1) := by decide +kernel
theorem dX10_override_12 : decode cX10_override 12 = .ok (.aload_n 0, 1) := by decide +kernel
theorem dX10_override_13 : decode cX10_override 13 = .ok (.getfield 10, 3) := by decide +kernel
theorem dX10_override_16 : decode cX10_override 16 = .ok (.iload_n 1, 1) := by decide +kernel
theorem dX10_override_17 : decode cX10_override 17 = .ok (.iload_n 2, 1) := by decide +kernel
theorem dX10_override_18 : decode cX10_override 18 = .ok (.iload_n 3, 1) := by decide +kernel
theorem dX10_override_19 : decode cX10_override 19 = .ok (.invokevirtual 68, 3) := by decide +kernel
theorem dX10_override_22 : decode cX10_override 22 = .ok (.invokevirtual 47, 3) := by decide +kernel
theorem dX10_override_25 : decode cX10_override 25 = .ok (.ireturn, 1) := by decide +kernel
theorem dX10_rotaAt_0 : decode cX10_rotaAt 0 = .ok (.aload_n 0, 1) := by decide +kernel
theorem dX10_rotaAt_1 : decode cX10_rotaAt 1 = .ok (.getfield 10, 3) := by decide +kernel
theorem dX10_rotaAt_4 : decode cX10_rotaAt 4 = .ok (.getfield 37, 3) := by decide +kernel
theorem dX10_rotaAt_7 : decode cX10_rotaAt 7 = .ok (.iload_n 1, 1) := by decide +kernel
theorem dX10_rotaAt_8 : decode cX10_rotaAt 8 = .ok (.invokevirtual 71, 3) := by decide +kernel
theorem dX10_rotaAt_11 : decode cX10_rotaAt 11 = .ok (.ifCond .eq 7, 3) := by decide +kernel
theorem dX10_rotaAt_14 : decode cX10_rotaAt 14 = .ok (.iload_n 2, 1) := by decide +kernel
theorem dX10_rotaAt_15 : decode cX10_rotaAt 15 = .ok (.ifCond .ge 5, 3) := by decide +kernel
theorem dX10_rotaAt_18 : decode cX10_rotaAt 18 = .ok (.iconst (-1), 1) := by decide +kernel
theorem dX10_rotaAt_19 : decode cX10_rotaAt 19 = .ok (.ireturn, 1) := by decide +kernel
theorem dX10_rotaAt_20 : decode cX10_rotaAt 20 = .ok (.aload_n 0, 1) := by decide +kernel
theorem dX10_rotaAt_21 : decode cX10_rotaAt 21 = .ok (.getfield 10, 3) := by decide +kernel
theorem dX10_rotaAt_24 : decode cX10_rotaAt 24 = .ok (.getfield 37, 3) := by decide +kernel
theorem dX10_rotaAt_27 : decode cX10_rotaAt 27 = .ok (.getfield 75, 3) := by decide +kernel
theorem dX10_rotaAt_30 : decode cX10_rotaAt 30 = .ok (.iload_n 1, 1) := by decide +kernel
theorem dX10_rotaAt_31 : decode cX10_rotaAt 31 = .ok (.aaload, 1) := by decide +kernel
theorem dX10_rotaAt_32 : decode cX10_rotaAt 32 = .ok (.iload_n 2, 1) := by decide +kernel
theorem dX10_rotaAt_33 : decode cX10_rotaAt 33 = .ok (.invokevirtual 79, 3) := by decide +kernel
theorem dX10_rotaAt_36 : decode cX10_rotaAt 36 = .ok (.istore_n 3, 1) := by decide +kernel
theorem dX10_rotaAt_37 : decode cX10_rotaAt 37 = .ok (.iload_n 3, 1) := by decide +kernel
theorem dX10_rotaAt_38 : decode cX10_rotaAt 38 = .ok (.iconst (-1), 1) := by decide +kernel
theorem dX10_rotaAt_39 : decode cX10_rotaAt 39 = .ok (.if_icmp .ne 8, 3) := by decide +kernel
theorem dX10_rotaAt_42 : decode cX10_rotaAt 42 = .ok (.bipush (-4), 2) := by decide +kernel
theorem dX10_rotaAt_44 : decode cX10_rotaAt 44 = .ok (.goto 4, 3) := by decide +kernel
theorem dX10_rotaAt_47 : decode cX10_rotaAt 47 = .ok (.iload_n 3, 1) := by decide +kernel
theorem dX10_rotaAt_48 : decode cX10_rotaAt 48 = .ok (.ireturn, 1) := by decide +kernel
theorem dX10_personOf_0 : decode cX10_personOf 0 = .ok (.aload_n 0, 1) := by decide +kernel
theorem dX10_personOf_1 : decode cX10_personOf 1 = .ok (.getfield 10, 3) := by decide +kernel
theorem dX10_personOf_4 : decode cX10_personOf 4 = .ok (.getfield 37, 3) := by decide +kernel
theorem dX10_personOf_7 : decode cX10_personOf 7 = .ok (.iload_n 1, 1) := by decide +kernel
theorem dX10_personOf_8 : decode cX10_personOf 8 = .ok (.invokevirtual 84, 3) := by decide +kernel
theorem dX10_personOf_11 : decode cX10_personOf 11 = .ok (.ifCond .ne 5, 3) := by decide +kernel
theorem dX10_personOf_14 : decode cX10_personOf 14 = .ok (.iconst (-1), 1) := by decide +kernel
theorem dX10_personOf_15 : decode cX10_personOf 15 = .ok (.ireturn, 1) := by decide +kernel
theorem dX10_personOf_16 : decode cX10_personOf 16 = .ok (.aload_n 0, 1) := by decide +kernel
theorem dX10_personOf_17 : decode cX10_personOf 17 = .ok (.getfield 10, 3) := by decide +kernel
theorem dX10_personOf_20 : decode cX10_personOf 20 = .ok (.getfield 37, 3) := by decide +kernel
theorem dX10_personOf_23 : decode cX10_personOf 23 = .ok (.getfield 87, 3) := by decide +kernel
theorem dX10_personOf_26 : decode cX10_personOf 26 = .ok (.iload_n 1, 1) := by decide +kernel
theorem dX10_personOf_27 : decode cX10_personOf 27 = .ok (.aaload, 1) := by decide +kernel
theorem dX10_personOf_28 : decode cX10_personOf 28 = .ok (.astore_n 3, 1) := by decide +kernel
theorem dX10_personOf_29 : decode cX10_personOf 29 = .ok (.iload_n 2, 1) := by decide +kernel
theorem dX10_personOf_30 : decode cX10_personOf 30 = .ok (.tableswitch 115 0 6 #[42, 47, 57, 67, 72, 84, 110], 42) := by decide +kernel
theorem dX10_personOf_72 : decode cX10_personOf 72 = .ok (.aload_n 3, 1) := by decide +kernel
theorem dX10_personOf_73 : decode cX10_personOf 73 = .ok (.getfield 91, 3) := by decide +kernel
theorem dX10_personOf_76 : decode cX10_personOf 76 = .ok (.ireturn, 1) := by decide +kernel
theorem dX10_personOf_77 : decode cX10_personOf 77 = .ok (.aload_n 0, 1) := by decide +kernel
theorem dX10_personOf_78 : decode cX10_personOf 78 = .ok (.getfield 10, 3) := by decide +kernel
theorem dX10_personOf_81 : decode cX10_personOf 81 = .ok (.iload_n 1, 1) := by decide +kernel
theorem dX10_personOf_82 : decode cX10_personOf 82 = .ok (.iconst 0, 1) := by decide +kernel
theorem dX10_personOf_83 : decode cX10_personOf 83 = .ok (.invokevirtual 97, 3) := by decide +kernel
theorem dX10_personOf_86 : decode cX10_personOf 86 = .ok (.ireturn, 1) := by decide +kernel
theorem dX10_personOf_87 : decode cX10_personOf 87 = .ok (.aload_n 0, 1) := by decide +kernel
theorem dX10_personOf_88 : decode cX10_personOf 88 = .ok (.getfield 10, 3) := by decide +kernel
theorem dX10_personOf_91 : decode cX10_personOf 91 = .ok (.iload_n 1, 1) := by decide +kernel
theorem dX10_personOf_92 : decode cX10_personOf 92 = .ok (.iconst 1, 1) := by decide +kernel
theorem dX10_personOf_93 : decode cX10_personOf 93 = .ok (.invokevirtual 97, 3) := by decide +kernel
theorem dX10_personOf_96 : decode cX10_personOf 96 = .ok (.ireturn, 1) := by decide +kernel
theorem dX10_personOf_97 : decode cX10_personOf 97 = .ok (.aload_n 3, 1) := by decide +kernel
theorem dX10_personOf_98 : decode cX10_personOf 98 = .ok (.getfield 101, 3) := by decide +kernel
theorem dX10_personOf_101 : decode cX10_personOf 101 = .ok (.ireturn, 1) := by decide +kernel
theorem dX10_personOf_102 : decode cX10_personOf 102 = .ok (.aload_n 0, 1) := by decide +kernel
theorem dX10_personOf_103 : decode cX10_personOf 103 = .ok (.getfield 10, 3) := by decide +kernel
theorem dX10_personOf_106 : decode cX10_personOf 106 = .ok (.getfield 37, 3) := by decide +kernel
theorem dX10_personOf_109 : decode cX10_personOf 109 = .ok (.iload_n 1, 1) := by decide +kernel
theorem dX10_personOf_110 : decode cX10_personOf 110 = .ok (.invokevirtual 104, 3) := by decide +kernel
theorem dX10_personOf_113 : decode cX10_personOf 113 = .ok (.ireturn, 1) := by decide +kernel
theorem dX10_personOf_114 : decode cX10_personOf 114 = .ok (.aload_n 3, 1) := by decide +kernel
theorem dX10_personOf_115 : decode cX10_personOf 115 = .ok (.getfield 107, 3) := by decide +kernel
theorem dX10_personOf_118 : decode cX10_personOf 118 = .ok (.aload_n 0, 1) := by decide +kernel
theorem dX10_personOf_119 : decode cX10_personOf 119 = .ok (.getfield 10, 3) := by decide +kernel
theorem dX10_personOf_122 : decode cX10_personOf 122 = .ok (.getfield 111, 3) := by decide +kernel
theorem dX10_personOf_125 : decode cX10_personOf 125 = .ok (.invokestatic 114, 3) := by decide +kernel
theorem dX10_personOf_128 : decode cX10_personOf 128 = .ok (.invokevirtual 117, 3) := by decide +kernel
theorem dX10_personOf_131 : decode cX10_personOf 131 = .ok (.ifCond .eq 7, 3) := by decide +kernel
theorem dX10_personOf_134 : decode cX10_personOf 134 = .ok (.iconst 1, 1) := by decide +kernel
theorem dX10_personOf_135 : decode cX10_personOf 135 = .ok (.goto 4, 3) := by decide +kernel
theorem dX10_personOf_138 : decode cX10_personOf 138 = .ok (.iconst 0, 1) := by decide +kernel
theorem dX10_personOf_139 : decode cX10_personOf 139 = .ok (.ireturn, 1) := by decide +kernel
theorem dX10_personOf_140 : decode cX10_personOf 140 = .ok (.aload_n 3, 1) := by decide +kernel
theorem dX10_personOf_141 : decode cX10_personOf 141 = .ok (.getfield 122, 3) := by decide +kernel
theorem dX10_personOf_144 : decode cX10_personOf 144 = .ok (.ireturn, 1) := by decide +kernel
theorem dX10_personOf_145 : decode cX10_personOf 145 = .ok (.iconst (-1), 1) := by decide +kernel
theorem dX10_personOf_146 : decode cX10_personOf 146 = .ok (.ireturn, 1) := by decide +kernel
theorem dX10_alert_0 : decode cX10_alert 0 = .ok (.aload_n 0, 1) := by decide +kernel
theorem dX10_alert_1 : decode cX10_alert 1 = .ok (.getfield 22, 3) := by decide +kernel
theorem dX10_alert_4 : decode cX10_alert 4 = .ok (.aload_n 0, 1) := by decide +kernel
theorem dX10_alert_5 : decode cX10_alert 5 = .ok (.getfield 10, 3) := by decide +kernel
theorem dX10_alert_8 : decode cX10_alert 8 = .ok (.invokevirtual 33, 3) := by decide +kernel
theorem dX10_alert_11 : decode cX10_alert 11 = .ok (.aload_n 0, 1) := by decide +kernel
theorem dX10_alert_12 : decode cX10_alert 12 = .ok (.aload_n 0, 1) := by decide +kernel
theorem dX10_alert_13 : decode cX10_alert 13 = .ok (.getfield 10, 3) := by decide +kernel
theorem dX10_alert_16 : decode cX10_alert 16 = .ok (.iload_n 1, 1) := by decide +kernel
theorem dX10_alert_17 : decode cX10_alert 17 = .ok (.iload_n 2, 1) := by decide +kernel
theorem dX10_alert_18 : decode cX10_alert 18 = .ok (.invokevirtual 125, 3) := by decide +kernel
theorem dX10_alert_21 : decode cX10_alert 21 = .ok (.invokevirtual 47, 3) := by decide +kernel
theorem dX10_alert_24 : decode cX10_alert 24 = .ok (.ireturn, 1) := by decide +kernel
theorem dX10_acknowledge_0 : decode cX10_acknowledge 0 = .ok (.aload_n 0, 1) := by decide +kernel
theorem dX10_acknowledge_1 : decode cX10_acknowledge 1 = .ok (.getfield 22, 3) := by decide +kernel
theorem dX10_acknowledge_4 : decode cX10_acknowledge 4 = .ok (.aload_n 0, 1) := by decide +kernel
theorem dX10_acknowledge_5 : decode cX10_acknowledge 5 = .ok (.getfield 10, 3) := by decide +kernel
theorem dX10_acknowledge_8 : decode cX10_acknowledge 8 = .ok (.invokevirtual 33, 3) := by decide +kernel
theorem dX10_acknowledge_11 : decode cX10_acknowledge 11 = .ok (.aload_n 0, 1) := by decide +kernel
theorem dX10_acknowledge_12 : decode cX10_acknowledge 12 = .ok (.aload_n 0, 1) := by decide +kernel
theorem dX10_acknowledge_13 : decode cX10_acknowledge 13 = .ok (.getfield 10, 3) := by decide +kernel
theorem dX10_acknowledge_16 : decode cX10_acknowledge 16 = .ok (.iload_n 1, 1) := by decide +kernel
theorem dX10_acknowledge_17 : decode cX10_acknowledge 17 = .ok (.invokevirtual 128, 3) := by decide +kernel
theorem dX10_acknowledge_20 : decode cX10_acknowledge 20 = .ok (.invokevirtual 47, 3) := by decide +kernel
theorem dX10_acknowledge_23 : decode cX10_acknowledge 23 = .ok (.ireturn, 1) := by decide +kernel
theorem dX10_resolve_0 : decode cX10_resolve 0 = .ok (.aload_n 0, 1) := by decide +kernel
theorem dX10_resolve_1 : decode cX10_resolve 1 = .ok (.getfield 22, 3) := by decide +kernel
theorem dX10_resolve_4 : decode cX10_resolve 4 = .ok (.aload_n 0, 1) := by decide +kernel
theorem dX10_resolve_5 : decode cX10_resolve 5 = .ok (.getfield 10, 3) := by decide +kernel
theorem dX10_resolve_8 : decode cX10_resolve 8 = .ok (.invokevirtual 33, 3) := by decide +kernel
theorem dX10_resolve_11 : decode cX10_resolve 11 = .ok (.aload_n 0, 1) := by decide +kernel
theorem dX10_resolve_12 : decode cX10_resolve 12 = .ok (.aload_n 0, 1) := by decide +kernel
theorem dX10_resolve_13 : decode cX10_resolve 13 = .ok (.getfield 10, 3) := by decide +kernel
theorem dX10_resolve_16 : decode cX10_resolve 16 = .ok (.iload_n 1, 1) := by decide +kernel
theorem dX10_resolve_17 : decode cX10_resolve 17 = .ok (.invokevirtual 131, 3) := by decide +kernel
theorem dX10_resolve_20 : decode cX10_resolve 20 = .ok (.invokevirtual 47, 3) := by decide +kernel
theorem dX10_resolve_23 : decode cX10_resolve 23 = .ok (.ireturn, 1) := by decide +kernel
theorem dX10_pass_0 : decode cX10_pass 0 = .ok (.aload_n 0, 1) := by decide +kernel
theorem dX10_pass_1 : decode cX10_pass 1 = .ok (.getfield 22, 3) := by decide +kernel
theorem dX10_pass_4 : decode cX10_pass 4 = .ok (.aload_n 0, 1) := by decide +kernel
theorem dX10_pass_5 : decode cX10_pass 5 = .ok (.getfield 10, 3) := by decide +kernel
theorem dX10_pass_8 : decode cX10_pass 8 = .ok (.invokevirtual 33, 3) := by decide +kernel
theorem dX10_pass_11 : decode cX10_pass 11 = .ok (.aload_n 0, 1) := by decide +kernel
theorem dX10_pass_12 : decode cX10_pass 12 = .ok (.aload_n 0, 1) := by decide +kernel
theorem dX10_pass_13 : decode cX10_pass 13 = .ok (.getfield 10, 3) := by decide +kernel
theorem dX10_pass_16 : decode cX10_pass 16 = .ok (.iload_n 1, 1) := by decide +kernel
theorem dX10_pass_17 : decode cX10_pass 17 = .ok (.invokevirtual 134, 3) := by decide +kernel
theorem dX10_pass_20 : decode cX10_pass 20 = .ok (.invokevirtual 47, 3) := by decide +kernel
theorem dX10_pass_23 : decode cX10_pass 23 = .ok (.ireturn, 1) := by decide +kernel
theorem dX10_set_0 : decode cX10_set 0 = .ok (.aload_n 0, 1) := by decide +kernel
theorem dX10_set_1 : decode cX10_set 1 = .ok (.getfield 22, 3) := by decide +kernel
theorem dX10_set_4 : decode cX10_set 4 = .ok (.aload_n 0, 1) := by decide +kernel
theorem dX10_set_5 : decode cX10_set 5 = .ok (.getfield 10, 3) := by decide +kernel
theorem dX10_set_8 : decode cX10_set 8 = .ok (.invokevirtual 33, 3) := by decide +kernel
theorem dX10_set_11 : decode cX10_set 11 = .ok (.aload_n 0, 1) := by decide +kernel
theorem dX10_set_12 : decode cX10_set 12 = .ok (.aload_n 0, 1) := by decide +kernel
theorem dX10_set_13 : decode cX10_set 13 = .ok (.getfield 10, 3) := by decide +kernel
theorem dX10_set_16 : decode cX10_set 16 = .ok (.iload_n 1, 1) := by decide +kernel
theorem dX10_set_17 : decode cX10_set 17 = .ok (.iload_n 2, 1) := by decide +kernel
theorem dX10_set_18 : decode cX10_set 18 = .ok (.invokevirtual 137, 3) := by decide +kernel
theorem dX10_set_21 : decode cX10_set 21 = .ok (.invokevirtual 47, 3) := by decide +kernel
theorem dX10_set_24 : decode cX10_set 24 = .ok (.ireturn, 1) := by decide +kernel
theorem dX10_incidentOf_0 : decode cX10_incidentOf 0 = .ok (.aload_n 0, 1) := by decide +kernel
theorem dX10_incidentOf_1 : decode cX10_incidentOf 1 = .ok (.getfield 10, 3) := by decide +kernel
theorem dX10_incidentOf_4 : decode cX10_incidentOf 4 = .ok (.iload_n 1, 1) := by decide +kernel
theorem dX10_incidentOf_5 : decode cX10_incidentOf 5 = .ok (.invokevirtual 140, 3) := by decide +kernel
theorem dX10_incidentOf_8 : decode cX10_incidentOf 8 = .ok (.ifCond .ne 5, 3) := by decide +kernel
theorem dX10_incidentOf_11 : decode cX10_incidentOf 11 = .ok (.iconst (-1), 1) := by decide +kernel
theorem dX10_incidentOf_12 : decode cX10_incidentOf 12 = .ok (.ireturn, 1) := by decide +kernel
theorem dX10_incidentOf_13 : decode cX10_incidentOf 13 = .ok (.aload_n 0, 1) := by decide +kernel
theorem dX10_incidentOf_14 : decode cX10_incidentOf 14 = .ok (.getfield 10, 3) := by decide +kernel
theorem dX10_incidentOf_17 : decode cX10_incidentOf 17 = .ok (.getfield 143, 3) := by decide +kernel
theorem dX10_incidentOf_20 : decode cX10_incidentOf 20 = .ok (.iload_n 1, 1) := by decide +kernel
theorem dX10_incidentOf_21 : decode cX10_incidentOf 21 = .ok (.aaload, 1) := by decide +kernel
theorem dX10_incidentOf_22 : decode cX10_incidentOf 22 = .ok (.astore_n 3, 1) := by decide +kernel
theorem dX10_incidentOf_23 : decode cX10_incidentOf 23 = .ok (.iload_n 2, 1) := by decide +kernel
theorem dX10_incidentOf_24 : decode cX10_incidentOf 24 = .ok (.tableswitch 158 0 11 #[64, 69, 74, 79, 97, 110, 115, 120, 125, 130, 148, 153], 64) := by decide +kernel
theorem dX10_incidentOf_88 : decode cX10_incidentOf 88 = .ok (.aload_n 3, 1) := by decide +kernel
theorem dX10_incidentOf_89 : decode cX10_incidentOf 89 = .ok (.getfield 147, 3) := by decide +kernel
theorem dX10_incidentOf_92 : decode cX10_incidentOf 92 = .ok (.ireturn, 1) := by decide +kernel
theorem dX10_incidentOf_93 : decode cX10_incidentOf 93 = .ok (.aload_n 3, 1) := by decide +kernel
theorem dX10_incidentOf_94 : decode cX10_incidentOf 94 = .ok (.getfield 152, 3) := by decide +kernel
theorem dX10_incidentOf_97 : decode cX10_incidentOf 97 = .ok (.ireturn, 1) := by decide +kernel
theorem dX10_incidentOf_98 : decode cX10_incidentOf 98 = .ok (.aload_n 3, 1) := by decide +kernel
theorem dX10_incidentOf_99 : decode cX10_incidentOf 99 = .ok (.getfield 155, 3) := by decide +kernel
theorem dX10_incidentOf_102 : decode cX10_incidentOf 102 = .ok (.ireturn, 1) := by decide +kernel
theorem dX10_incidentOf_103 : decode cX10_incidentOf 103 = .ok (.aload_n 3, 1) := by decide +kernel
theorem dX10_incidentOf_104 : decode cX10_incidentOf 104 = .ok (.getfield 158, 3) := by decide +kernel
theorem dX10_incidentOf_107 : decode cX10_incidentOf 107 = .ok (.iconst (-1), 1) := by decide +kernel
theorem dX10_incidentOf_108 : decode cX10_incidentOf 108 = .ok (.if_icmp .ne 8, 3) := by decide +kernel
theorem dX10_incidentOf_111 : decode cX10_incidentOf 111 = .ok (.bipush (-4), 2) := by decide +kernel
theorem dX10_incidentOf_113 : decode cX10_incidentOf 113 = .ok (.goto 7, 3) := by decide +kernel
theorem dX10_incidentOf_116 : decode cX10_incidentOf 116 = .ok (.aload_n 3, 1) := by decide +kernel
theorem dX10_incidentOf_117 : decode cX10_incidentOf 117 = .ok (.getfield 158, 3) := by decide +kernel
theorem dX10_incidentOf_120 : decode cX10_incidentOf 120 = .ok (.ireturn, 1) := by decide +kernel
theorem dX10_incidentOf_121 : decode cX10_incidentOf 121 = .ok (.aload_n 3, 1) := by decide +kernel
theorem dX10_incidentOf_122 : decode cX10_incidentOf 122 = .ok (.getfield 161, 3) := by decide +kernel
theorem dX10_incidentOf_125 : decode cX10_incidentOf 125 = .ok (.ifCond .eq 7, 3) := by decide +kernel
theorem dX10_incidentOf_128 : decode cX10_incidentOf 128 = .ok (.iconst 1, 1) := by decide +kernel
theorem dX10_incidentOf_129 : decode cX10_incidentOf 129 = .ok (.goto 4, 3) := by decide +kernel
theorem dX10_incidentOf_132 : decode cX10_incidentOf 132 = .ok (.iconst 0, 1) := by decide +kernel
theorem dX10_incidentOf_133 : decode cX10_incidentOf 133 = .ok (.ireturn, 1) := by decide +kernel
theorem dX10_incidentOf_134 : decode cX10_incidentOf 134 = .ok (.aload_n 3, 1) := by decide +kernel
theorem dX10_incidentOf_135 : decode cX10_incidentOf 135 = .ok (.getfield 165, 3) := by decide +kernel
theorem dX10_incidentOf_138 : decode cX10_incidentOf 138 = .ok (.ireturn, 1) := by decide +kernel
theorem dX10_incidentOf_139 : decode cX10_incidentOf 139 = .ok (.aload_n 3, 1) := by decide +kernel
theorem dX10_incidentOf_140 : decode cX10_incidentOf 140 = .ok (.getfield 168, 3) := by decide +kernel
theorem dX10_incidentOf_143 : decode cX10_incidentOf 143 = .ok (.ireturn, 1) := by decide +kernel
theorem dX10_incidentOf_144 : decode cX10_incidentOf 144 = .ok (.aload_n 3, 1) := by decide +kernel
theorem dX10_incidentOf_145 : decode cX10_incidentOf 145 = .ok (.getfield 171, 3) := by decide +kernel
theorem dX10_incidentOf_148 : decode cX10_incidentOf 148 = .ok (.ireturn, 1) := by decide +kernel
theorem dX10_incidentOf_149 : decode cX10_incidentOf 149 = .ok (.aload_n 3, 1) := by decide +kernel
theorem dX10_incidentOf_150 : decode cX10_incidentOf 150 = .ok (.getfield 174, 3) := by decide +kernel
theorem dX10_incidentOf_153 : decode cX10_incidentOf 153 = .ok (.ireturn, 1) := by decide +kernel
theorem dX10_incidentOf_154 : decode cX10_incidentOf 154 = .ok (.aload_n 3, 1) := by decide +kernel
theorem dX10_incidentOf_155 : decode cX10_incidentOf 155 = .ok (.getfield 177, 3) := by decide +kernel
theorem dX10_incidentOf_158 : decode cX10_incidentOf 158 = .ok (.iconst (-1), 1) := by decide +kernel
theorem dX10_incidentOf_159 : decode cX10_incidentOf 159 = .ok (.if_icmp .ne 8, 3) := by decide +kernel
theorem dX10_incidentOf_162 : decode cX10_incidentOf 162 = .ok (.bipush (-4), 2) := by decide +kernel
theorem dX10_incidentOf_164 : decode cX10_incidentOf 164 = .ok (.goto 7, 3) := by decide +kernel
theorem dX10_incidentOf_167 : decode cX10_incidentOf 167 = .ok (.aload_n 3, 1) := by decide +kernel
theorem dX10_incidentOf_168 : decode cX10_incidentOf 168 = .ok (.getfield 177, 3) := by decide +kernel
theorem dX10_incidentOf_171 : decode cX10_incidentOf 171 = .ok (.ireturn, 1) := by decide +kernel
theorem dX10_incidentOf_172 : decode cX10_incidentOf 172 = .ok (.aload_n 3, 1) := by decide +kernel
theorem dX10_incidentOf_173 : decode cX10_incidentOf 173 = .ok (.getfield 180, 3) := by decide +kernel
theorem dX10_incidentOf_176 : decode cX10_incidentOf 176 = .ok (.ireturn, 1) := by decide +kernel
theorem dX10_incidentOf_177 : decode cX10_incidentOf 177 = .ok (.aload_n 3, 1) := by decide +kernel
theorem dX10_incidentOf_178 : decode cX10_incidentOf 178 = .ok (.getfield 183, 3) := by decide +kernel
theorem dX10_incidentOf_181 : decode cX10_incidentOf 181 = .ok (.ireturn, 1) := by decide +kernel
theorem dX10_incidentOf_182 : decode cX10_incidentOf 182 = .ok (.iconst (-1), 1) := by decide +kernel
theorem dX10_incidentOf_183 : decode cX10_incidentOf 183 = .ok (.ireturn, 1) := by decide +kernel
theorem dX10_count_0 : decode cX10_count 0 = .ok (.iload_n 1, 1) := by decide +kernel
theorem dX10_count_1 : decode cX10_count 1 = .ok (.tableswitch 209 0 21 #[103, 114, 125, 133, 141, 151, 209, 209, 209, 209, 209, 209, 209, 159, 177, 185, 209, 209, 209, 209, 193, 201], 103) := by decide +kernel
theorem dX10_count_104 : decode cX10_count 104 = .ok (.aload_n 0, 1) := by decide +kernel
theorem dX10_count_105 : decode cX10_count 105 = .ok (.getfield 10, 3) := by decide +kernel
theorem dX10_count_108 : decode cX10_count 108 = .ok (.getfield 37, 3) := by decide +kernel
theorem dX10_count_111 : decode cX10_count 111 = .ok (.getfield 186, 3) := by decide +kernel
theorem dX10_count_114 : decode cX10_count 114 = .ok (.ireturn, 1) := by decide +kernel
theorem dX10_count_115 : decode cX10_count 115 = .ok (.aload_n 0, 1) := by decide +kernel
theorem dX10_count_116 : decode cX10_count 116 = .ok (.getfield 10, 3) := by decide +kernel
theorem dX10_count_119 : decode cX10_count 119 = .ok (.getfield 37, 3) := by decide +kernel
theorem dX10_count_122 : decode cX10_count 122 = .ok (.getfield 189, 3) := by decide +kernel
theorem dX10_count_125 : decode cX10_count 125 = .ok (.ireturn, 1) := by decide +kernel
theorem dX10_count_126 : decode cX10_count 126 = .ok (.aload_n 0, 1) := by decide +kernel
theorem dX10_count_127 : decode cX10_count 127 = .ok (.getfield 10, 3) := by decide +kernel
theorem dX10_count_130 : decode cX10_count 130 = .ok (.getfield 111, 3) := by decide +kernel
theorem dX10_count_133 : decode cX10_count 133 = .ok (.ireturn, 1) := by decide +kernel
theorem dX10_count_134 : decode cX10_count 134 = .ok (.aload_n 0, 1) := by decide +kernel
theorem dX10_count_135 : decode cX10_count 135 = .ok (.getfield 10, 3) := by decide +kernel
theorem dX10_count_138 : decode cX10_count 138 = .ok (.invokevirtual 192, 3) := by decide +kernel
theorem dX10_count_141 : decode cX10_count 141 = .ok (.ireturn, 1) := by decide +kernel
theorem dX10_count_142 : decode cX10_count 142 = .ok (.aload_n 0, 1) := by decide +kernel
theorem dX10_count_143 : decode cX10_count 143 = .ok (.getfield 10, 3) := by decide +kernel
theorem dX10_count_146 : decode cX10_count 146 = .ok (.iconst (-1), 1) := by decide +kernel
theorem dX10_count_147 : decode cX10_count 147 = .ok (.iconst 0, 1) := by decide +kernel
theorem dX10_count_148 : decode cX10_count 148 = .ok (.invokevirtual 97, 3) := by decide +kernel
theorem dX10_count_151 : decode cX10_count 151 = .ok (.ireturn, 1) := by decide +kernel
theorem dX10_count_152 : decode cX10_count 152 = .ok (.aload_n 0, 1) := by decide +kernel
theorem dX10_count_153 : decode cX10_count 153 = .ok (.getfield 10, 3) := by decide +kernel
theorem dX10_count_156 : decode cX10_count 156 = .ok (.invokevirtual 195, 3) := by decide +kernel
theorem dX10_count_159 : decode cX10_count 159 = .ok (.ireturn, 1) := by decide +kernel
theorem dX10_count_160 : decode cX10_count 160 = .ok (.aload_n 0, 1) := by decide +kernel
theorem dX10_count_161 : decode cX10_count 161 = .ok (.getfield 10, 3) := by decide +kernel
theorem dX10_count_164 : decode cX10_count 164 = .ok (.getfield 37, 3) := by decide +kernel
theorem dX10_count_167 : decode cX10_count 167 = .ok (.aload_n 0, 1) := by decide +kernel
theorem dX10_count_168 : decode cX10_count 168 = .ok (.getfield 10, 3) := by decide +kernel
theorem dX10_count_171 : decode cX10_count 171 = .ok (.getfield 111, 3) := by decide +kernel
theorem dX10_count_174 : decode cX10_count 174 = .ok (.invokevirtual 198, 3) := by decide +kernel
theorem dX10_count_177 : decode cX10_count 177 = .ok (.ireturn, 1) := by decide +kernel
theorem dX10_count_178 : decode cX10_count 178 = .ok (.aload_n 0, 1) := by decide +kernel
theorem dX10_count_179 : decode cX10_count 179 = .ok (.getfield 22, 3) := by decide +kernel
theorem dX10_count_182 : decode cX10_count 182 = .ok (.getfield 201, 3) := by decide +kernel
theorem dX10_count_185 : decode cX10_count 185 = .ok (.ireturn, 1) := by decide +kernel
theorem dX10_count_186 : decode cX10_count 186 = .ok (.aload_n 0, 1) := by decide +kernel
theorem dX10_count_187 : decode cX10_count 187 = .ok (.getfield 29, 3) := by decide +kernel
theorem dX10_count_190 : decode cX10_count 190 = .ok (.getfield 204, 3) := by decide +kernel
theorem dX10_count_193 : decode cX10_count 193 = .ok (.ireturn, 1) := by decide +kernel
theorem dX10_count_194 : decode cX10_count 194 = .ok (.aload_n 0, 1) := by decide +kernel
theorem dX10_count_195 : decode cX10_count 195 = .ok (.getfield 10, 3) := by decide +kernel
theorem dX10_count_198 : decode cX10_count 198 = .ok (.getfield 207, 3) := by decide +kernel
theorem dX10_count_201 : decode cX10_count 201 = .ok (.ireturn, 1) := by decide +kernel
theorem dX10_count_202 : decode cX10_count 202 = .ok (.aload_n 0, 1) := by decide +kernel
theorem dX10_count_203 : decode cX10_count 203 = .ok (.getfield 10, 3) := by decide +kernel
theorem dX10_count_206 : decode cX10_count 206 = .ok (.getfield 210, 3) := by decide +kernel
theorem dX10_count_209 : decode cX10_count 209 = .ok (.ireturn, 1) := by decide +kernel
theorem dX10_count_210 : decode cX10_count 210 = .ok (.aload_n 0, 1) := by decide +kernel
theorem dX10_count_211 : decode cX10_count 211 = .ok (.getfield 10, 3) := by decide +kernel
theorem dX10_count_214 : decode cX10_count 214 = .ok (.getfield 213, 3) := by decide +kernel
theorem dX10_count_217 : decode cX10_count 217 = .ok (.iload_n 1, 1) := by decide +kernel
theorem dX10_count_218 : decode cX10_count 218 = .ok (.invokevirtual 217, 3) := by decide +kernel
theorem dX10_count_221 : decode cX10_count 221 = .ok (.ireturn, 1) := by decide +kernel
theorem dX10_onCall_0 : decode cX10_onCall 0 = .ok (.iload_n 1, 1) := by decide +kernel
theorem dX10_onCall_1 : decode cX10_onCall 1 = .ok (.ifCond .lt 21, 3) := by decide +kernel
theorem dX10_onCall_4 : decode cX10_onCall 4 = .ok (.iload_n 1, 1) := by decide +kernel
theorem dX10_onCall_5 : decode cX10_onCall 5 = .ok (.sipush 30000, 3) := by decide +kernel
theorem dX10_onCall_8 : decode cX10_onCall 8 = .ok (.if_icmp .gt 14, 3) := by decide +kernel
theorem dX10_onCall_11 : decode cX10_onCall 11 = .ok (.iload_n 2, 1) := by decide +kernel
theorem dX10_onCall_12 : decode cX10_onCall 12 = .ok (.iconst (-1), 1) := by decide +kernel
theorem dX10_onCall_13 : decode cX10_onCall 13 = .ok (.if_icmp .lt 9, 3) := by decide +kernel
theorem dX10_onCall_16 : decode cX10_onCall 16 = .ok (.iload_n 2, 1) := by decide +kernel
theorem dX10_onCall_17 : decode cX10_onCall 17 = .ok (.bipush 9, 2) := by decide +kernel
theorem dX10_onCall_19 : decode cX10_onCall 19 = .ok (.if_icmp .le 5, 3) := by decide +kernel
theorem dX10_onCall_22 : decode cX10_onCall 22 = .ok (.iconst (-1), 1) := by decide +kernel
theorem dX10_onCall_23 : decode cX10_onCall 23 = .ok (.ireturn, 1) := by decide +kernel
theorem dX10_onCall_24 : decode cX10_onCall 24 = .ok (.aload_n 0, 1) := by decide +kernel
theorem dX10_onCall_25 : decode cX10_onCall 25 = .ok (.getfield 10, 3) := by decide +kernel
theorem dX10_onCall_28 : decode cX10_onCall 28 = .ok (.getfield 111, 3) := by decide +kernel
theorem dX10_onCall_31 : decode cX10_onCall 31 = .ok (.iload_n 1, 1) := by decide +kernel
theorem dX10_onCall_32 : decode cX10_onCall 32 = .ok (.iadd, 1) := by decide +kernel
theorem dX10_onCall_33 : decode cX10_onCall 33 = .ok (.istore_n 3, 1) := by decide +kernel
theorem dX10_onCall_34 : decode cX10_onCall 34 = .ok (.aload_n 0, 1) := by decide +kernel
theorem dX10_onCall_35 : decode cX10_onCall 35 = .ok (.getfield 10, 3) := by decide +kernel
theorem dX10_onCall_38 : decode cX10_onCall 38 = .ok (.getfield 37, 3) := by decide +kernel
theorem dX10_onCall_41 : decode cX10_onCall 41 = .ok (.iload_n 3, 1) := by decide +kernel
theorem dX10_onCall_42 : decode cX10_onCall 42 = .ok (.invokevirtual 222, 3) := by decide +kernel
theorem dX10_onCall_45 : decode cX10_onCall 45 = .ok (.istore 4, 2) := by decide +kernel
theorem dX10_onCall_47 : decode cX10_onCall 47 = .ok (.iload_n 2, 1) := by decide +kernel
theorem dX10_onCall_48 : decode cX10_onCall 48 = .ok (.iconst (-1), 1) := by decide +kernel
theorem dX10_onCall_49 : decode cX10_onCall 49 = .ok (.if_icmp .ne 8, 3) := by decide +kernel
theorem dX10_onCall_52 : decode cX10_onCall 52 = .ok (.iload 4, 2) := by decide +kernel
theorem dX10_onCall_54 : decode cX10_onCall 54 = .ok (.goto 17, 3) := by decide +kernel
theorem dX10_onCall_57 : decode cX10_onCall 57 = .ok (.aload_n 0, 1) := by decide +kernel
theorem dX10_onCall_58 : decode cX10_onCall 58 = .ok (.getfield 10, 3) := by decide +kernel
theorem dX10_onCall_61 : decode cX10_onCall 61 = .ok (.getfield 37, 3) := by decide +kernel
theorem dX10_onCall_64 : decode cX10_onCall 64 = .ok (.iload 4, 2) := by decide +kernel
theorem dX10_onCall_66 : decode cX10_onCall 66 = .ok (.iload_n 3, 1) := by decide +kernel
theorem dX10_onCall_67 : decode cX10_onCall 67 = .ok (.iload_n 2, 1) := by decide +kernel
theorem dX10_onCall_68 : decode cX10_onCall 68 = .ok (.invokevirtual 225, 3) := by decide +kernel
theorem dX10_onCall_71 : decode cX10_onCall 71 = .ok (.istore 5, 2) := by decide +kernel
theorem dX10_onCall_73 : decode cX10_onCall 73 = .ok (.iload 5, 2) := by decide +kernel
theorem dX10_onCall_75 : decode cX10_onCall 75 = .ok (.iconst (-1), 1) := by decide +kernel
theorem dX10_onCall_76 : decode cX10_onCall 76 = .ok (.if_icmp .ne 8, 3) := by decide +kernel
theorem dX10_onCall_79 : decode cX10_onCall 79 = .ok (.bipush (-4), 2) := by decide +kernel
theorem dX10_onCall_81 : decode cX10_onCall 81 = .ok (.goto 5, 3) := by decide +kernel
theorem dX10_onCall_84 : decode cX10_onCall 84 = .ok (.iload 5, 2) := by decide +kernel
theorem dX10_onCall_86 : decode cX10_onCall 86 = .ok (.ireturn, 1) := by decide +kernel
theorem dX10_uncovered_0 : decode cX10_uncovered 0 = .ok (.iconst 0, 1) := by decide +kernel
theorem dX10_uncovered_1 : decode cX10_uncovered 1 = .ok (.istore_n 1, 1) := by decide +kernel
theorem dX10_uncovered_2 : decode cX10_uncovered 2 = .ok (.iconst 0, 1) := by decide +kernel
theorem dX10_uncovered_3 : decode cX10_uncovered 3 = .ok (.istore_n 2, 1) := by decide +kernel
theorem dX10_uncovered_4 : decode cX10_uncovered 4 = .ok (.iload_n 2, 1) := by decide +kernel
theorem dX10_uncovered_5 : decode cX10_uncovered 5 = .ok (.bipush 24, 2) := by decide +kernel
theorem dX10_uncovered_7 : decode cX10_uncovered 7 = .ok (.if_icmp .ge 30, 3) := by decide +kernel
theorem dX10_uncovered_10 : decode cX10_uncovered 10 = .ok (.aload_n 0, 1) := by decide +kernel
theorem dX10_uncovered_11 : decode cX10_uncovered 11 = .ok (.getfield 10, 3) := by decide +kernel
theorem dX10_uncovered_14 : decode cX10_uncovered 14 = .ok (.getfield 37, 3) := by decide +kernel
theorem dX10_uncovered_17 : decode cX10_uncovered 17 = .ok (.iload_n 2, 1) := by decide +kernel
theorem dX10_uncovered_18 : decode cX10_uncovered 18 = .ok (.bipush 60, 2) := by decide +kernel
theorem dX10_uncovered_20 : decode cX10_uncovered 20 = .ok (.imul, 1) := by decide +kernel
theorem dX10_uncovered_21 : decode cX10_uncovered 21 = .ok (.invokevirtual 222, 3) := by decide +kernel
theorem dX10_uncovered_24 : decode cX10_uncovered 24 = .ok (.iconst (-1), 1) := by decide +kernel
theorem dX10_uncovered_25 : decode cX10_uncovered 25 = .ok (.if_icmp .ne 6, 3) := by decide +kernel
theorem dX10_uncovered_28 : decode cX10_uncovered 28 = .ok (.iinc 1 1, 3) := by decide +kernel
theorem dX10_uncovered_31 : decode cX10_uncovered 31 = .ok (.iinc 2 1, 3) := by decide +kernel
theorem dX10_uncovered_34 : decode cX10_uncovered 34 = .ok (.goto (-30), 3) := by decide +kernel
theorem dX10_uncovered_37 : decode cX10_uncovered 37 = .ok (.iload_n 1, 1) := by decide +kernel
theorem dX10_uncovered_38 : decode cX10_uncovered 38 = .ok (.ireturn, 1) := by decide +kernel
theorem dX10_later_0 : decode cX10_later 0 = .ok (.aload_n 0, 1) := by decide +kernel
theorem dX10_later_1 : decode cX10_later 1 = .ok (.getfield 10, 3) := by decide +kernel
theorem dX10_later_4 : decode cX10_later 4 = .ok (.iload_n 1, 1) := by decide +kernel
theorem dX10_later_5 : decode cX10_later 5 = .ok (.invokevirtual 140, 3) := by decide +kernel
theorem dX10_later_8 : decode cX10_later 8 = .ok (.ifCond .eq 24, 3) := by decide +kernel
theorem dX10_later_11 : decode cX10_later 11 = .ok (.iload_n 2, 1) := by decide +kernel
theorem dX10_later_12 : decode cX10_later 12 = .ok (.iconst 1, 1) := by decide +kernel
theorem dX10_later_13 : decode cX10_later 13 = .ok (.if_icmp .lt 19, 3) := by decide +kernel
theorem dX10_later_16 : decode cX10_later 16 = .ok (.iload_n 2, 1) := by decide +kernel
theorem dX10_later_17 : decode cX10_later 17 = .ok (.sipush 600, 3) := by decide +kernel
theorem dX10_later_20 : decode cX10_later 20 = .ok (.if_icmp .gt 12, 3) := by decide +kernel
theorem dX10_later_23 : decode cX10_later 23 = .ok (.iload_n 3, 1) := by decide +kernel
theorem dX10_later_24 : decode cX10_later 24 = .ok (.ifCond .lt 8, 3) := by decide +kernel
theorem dX10_later_27 : decode cX10_later 27 = .ok (.iload_n 3, 1) := by decide +kernel
theorem dX10_later_28 : decode cX10_later 28 = .ok (.iconst 2, 1) := by decide +kernel
theorem dX10_later_29 : decode cX10_later 29 = .ok (.if_icmp .le 5, 3) := by decide +kernel
theorem dX10_later_32 : decode cX10_later 32 = .ok (.iconst (-1), 1) := by decide +kernel
theorem dX10_later_33 : decode cX10_later 33 = .ok (.ireturn, 1) := by decide +kernel
theorem dX10_later_34 : decode cX10_later 34 = .ok (.aload_n 0, 1) := by decide +kernel
theorem dX10_later_35 : decode cX10_later 35 = .ok (.getfield 16, 3) := by decide +kernel
theorem dX10_later_38 : decode cX10_later 38 = .ok (.aload_n 0, 1) := by decide +kernel
theorem dX10_later_39 : decode cX10_later 39 = .ok (.getfield 10, 3) := by decide +kernel
theorem dX10_later_42 : decode cX10_later 42 = .ok (.invokevirtual 228, 3) := by decide +kernel
theorem dX10_later_45 : decode cX10_later 45 = .ok (.aload_n 0, 1) := by decide +kernel
theorem dX10_later_46 : decode cX10_later 46 = .ok (.getfield 16, 3) := by decide +kernel
theorem dX10_later_49 : decode cX10_later 49 = .ok (.iload_n 1, 1) := by decide +kernel
theorem dX10_later_50 : decode cX10_later 50 = .ok (.iload_n 2, 1) := by decide +kernel
theorem dX10_later_51 : decode cX10_later 51 = .ok (.invokevirtual 231, 3) := by decide +kernel
theorem dX10_later_54 : decode cX10_later 54 = .ok (.aload_n 0, 1) := by decide +kernel
theorem dX10_later_55 : decode cX10_later 55 = .ok (.getfield 16, 3) := by decide +kernel
theorem dX10_later_58 : decode cX10_later 58 = .ok (.getfield 143, 3) := by decide +kernel
theorem dX10_later_61 : decode cX10_later 61 = .ok (.iload_n 1, 1) := by decide +kernel
theorem dX10_later_62 : decode cX10_later 62 = .ok (.aaload, 1) := by decide +kernel
theorem dX10_later_63 : decode cX10_later 63 = .ok (.astore 4, 2) := by decide +kernel
theorem dX10_later_65 : decode cX10_later 65 = .ok (.iload_n 3, 1) := by decide +kernel
theorem dX10_later_66 : decode cX10_later 66 = .ok (.iconst 1, 1) := by decide +kernel
theorem dX10_later_67 : decode cX10_later 67 = .ok (.if_icmp .ne 9, 3) := by decide +kernel
theorem dX10_later_70 : decode cX10_later 70 = .ok (.aload 4, 2) := by decide +kernel
theorem dX10_later_72 : decode cX10_later 72 = .ok (.getfield 155, 3) := by decide +kernel
theorem dX10_later_75 : decode cX10_later 75 = .ok (.ireturn, 1) := by decide +kernel
theorem dX10_later_76 : decode cX10_later 76 = .ok (.iload_n 3, 1) := by decide +kernel
theorem dX10_later_77 : decode cX10_later 77 = .ok (.iconst 2, 1) := by decide +kernel
theorem dX10_later_78 : decode cX10_later 78 = .ok (.if_icmp .ne 9, 3) := by decide +kernel
theorem dX10_later_81 : decode cX10_later 81 = .ok (.aload 4, 2) := by decide +kernel
theorem dX10_later_83 : decode cX10_later 83 = .ok (.getfield 174, 3) := by decide +kernel
theorem dX10_later_86 : decode cX10_later 86 = .ok (.ireturn, 1) := by decide +kernel
theorem dX10_later_87 : decode cX10_later 87 = .ok (.aload 4, 2) := by decide +kernel
theorem dX10_later_89 : decode cX10_later 89 = .ok (.getfield 158, 3) := by decide +kernel
theorem dX10_later_92 : decode cX10_later 92 = .ok (.iconst (-1), 1) := by decide +kernel
theorem dX10_later_93 : decode cX10_later 93 = .ok (.if_icmp .ne 8, 3) := by decide +kernel
theorem dX10_later_96 : decode cX10_later 96 = .ok (.bipush (-4), 2) := by decide +kernel
theorem dX10_later_98 : decode cX10_later 98 = .ok (.goto 8, 3) := by decide +kernel
theorem dX10_later_101 : decode cX10_later 101 = .ok (.aload 4, 2) := by decide +kernel
theorem dX10_later_103 : decode cX10_later 103 = .ok (.getfield 158, 3) := by decide +kernel
theorem dX10_later_106 : decode cX10_later 106 = .ok (.ireturn, 1) := by decide +kernel
theorem dX10_acknowledgeBits_0 : decode cX10_acknowledgeBits 0 = .ok (.aload_n 0, 1) := by decide +kernel
theorem dX10_acknowledgeBits_1 : decode cX10_acknowledgeBits 1 = .ok (.getfield 10, 3) := by decide +kernel
theorem dX10_acknowledgeBits_4 : decode cX10_acknowledgeBits 4 = .ok (.getfield 213, 3) := by decide +kernel
theorem dX10_acknowledgeBits_7 : decode cX10_acknowledgeBits 7 = .ok (.astore_n 1, 1) := by decide +kernel
theorem dX10_acknowledgeBits_8 : decode cX10_acknowledgeBits 8 = .ok (.aload_n 1, 1) := by decide +kernel
theorem dX10_acknowledgeBits_9 : decode cX10_acknowledgeBits 9 = .ok (.getfield 235, 3) := by decide +kernel
theorem dX10_acknowledgeBits_12 : decode cX10_acknowledgeBits 12 = .ok (.ifCond .gt 6, 3) := by decide +kernel
theorem dX10_acknowledgeBits_15 : decode cX10_acknowledgeBits 15 = .ok (.bipush (-4), 2) := by decide +kernel
theorem dX10_acknowledgeBits_17 : decode cX10_acknowledgeBits 17 = .ok (.ireturn, 1) := by decide +kernel
theorem dX10_acknowledgeBits_18 : decode cX10_acknowledgeBits 18 = .ok (.aload_n 1, 1) := by decide +kernel
theorem dX10_acknowledgeBits_19 : decode cX10_acknowledgeBits 19 = .ok (.getfield 238, 3) := by decide +kernel
theorem dX10_acknowledgeBits_22 : decode cX10_acknowledgeBits 22 = .ok (.i2f, 1) := by decide +kernel
theorem dX10_acknowledgeBits_23 : decode cX10_acknowledgeBits 23 = .ok (.aload_n 1, 1) := by decide +kernel
theorem dX10_acknowledgeBits_24 : decode cX10_acknowledgeBits 24 = .ok (.getfield 235, 3) := by decide +kernel
theorem dX10_acknowledgeBits_27 : decode cX10_acknowledgeBits 27 = .ok (.i2f, 1) := by decide +kernel
theorem dX10_acknowledgeBits_28 : decode cX10_acknowledgeBits 28 = .ok (.fdiv, 1) := by decide +kernel
theorem dX10_acknowledgeBits_29 : decode cX10_acknowledgeBits 29 = .ok (.invokestatic 241, 3) := by decide +kernel
theorem dX10_acknowledgeBits_32 : decode cX10_acknowledgeBits 32 = .ok (.ireturn, 1) := by decide +kernel
theorem dX10_unownedBits_0 : decode cX10_unownedBits 0 = .ok (.aload_n 0, 1) := by decide +kernel
theorem dX10_unownedBits_1 : decode cX10_unownedBits 1 = .ok (.getfield 10, 3) := by decide +kernel
theorem dX10_unownedBits_4 : decode cX10_unownedBits 4 = .ok (.getfield 213, 3) := by decide +kernel
theorem dX10_unownedBits_7 : decode cX10_unownedBits 7 = .ok (.astore_n 1, 1) := by decide +kernel
theorem dX10_unownedBits_8 : decode cX10_unownedBits 8 = .ok (.aload_n 1, 1) := by decide +kernel
theorem dX10_unownedBits_9 : decode cX10_unownedBits 9 = .ok (.getfield 245, 3) := by decide +kernel
theorem dX10_unownedBits_12 : decode cX10_unownedBits 12 = .ok (.ifCond .gt 6, 3) := by decide +kernel
theorem dX10_unownedBits_15 : decode cX10_unownedBits 15 = .ok (.bipush (-4), 2) := by decide +kernel
theorem dX10_unownedBits_17 : decode cX10_unownedBits 17 = .ok (.ireturn, 1) := by decide +kernel
theorem dX10_unownedBits_18 : decode cX10_unownedBits 18 = .ok (.aload_n 1, 1) := by decide +kernel
theorem dX10_unownedBits_19 : decode cX10_unownedBits 19 = .ok (.getfield 248, 3) := by decide +kernel
theorem dX10_unownedBits_22 : decode cX10_unownedBits 22 = .ok (.i2d, 1) := by decide +kernel
theorem dX10_unownedBits_23 : decode cX10_unownedBits 23 = .ok (.aload_n 1, 1) := by decide +kernel
theorem dX10_unownedBits_24 : decode cX10_unownedBits 24 = .ok (.getfield 245, 3) := by decide +kernel
theorem dX10_unownedBits_27 : decode cX10_unownedBits 27 = .ok (.i2d, 1) := by decide +kernel
theorem dX10_unownedBits_28 : decode cX10_unownedBits 28 = .ok (.ddiv, 1) := by decide +kernel
theorem dX10_unownedBits_29 : decode cX10_unownedBits 29 = .ok (.d2f, 1) := by decide +kernel
theorem dX10_unownedBits_30 : decode cX10_unownedBits 30 = .ok (.invokestatic 241, 3) := by decide +kernel
theorem dX10_unownedBits_33 : decode cX10_unownedBits 33 = .ok (.ireturn, 1) := by decide +kernel
theorem dX10_undo_0 : decode cX10_undo 0 = .ok (.aload_n 0, 1) := by decide +kernel
theorem dX10_undo_1 : decode cX10_undo 1 = .ok (.getfield 22, 3) := by decide +kernel
theorem dX10_undo_4 : decode cX10_undo 4 = .ok (.getfield 201, 3) := by decide +kernel
theorem dX10_undo_7 : decode cX10_undo 7 = .ok (.ifCond .gt 6, 3) := by decide +kernel
theorem dX10_undo_10 : decode cX10_undo 10 = .ok (.bipush (-2), 2) := by decide +kernel
theorem dX10_undo_12 : decode cX10_undo 12 = .ok (.ireturn, 1) := by decide +kernel
theorem dX10_undo_13 : decode cX10_undo 13 = .ok (.aload_n 0, 1) := by decide +kernel
theorem dX10_undo_14 : decode cX10_undo 14 = .ok (.getfield 22, 3) := by decide +kernel
theorem dX10_undo_17 : decode cX10_undo 17 = .ok (.aload_n 0, 1) := by decide +kernel
theorem dX10_undo_18 : decode cX10_undo 18 = .ok (.getfield 10, 3) := by decide +kernel
theorem dX10_undo_21 : decode cX10_undo 21 = .ok (.invokevirtual 249, 3) := by decide +kernel
theorem dX10_undo_24 : decode cX10_undo 24 = .ok (.aload_n 0, 1) := by decide +kernel
theorem dX10_undo_25 : decode cX10_undo 25 = .ok (.getfield 22, 3) := by decide +kernel
theorem dX10_undo_28 : decode cX10_undo 28 = .ok (.getfield 201, 3) := by decide +kernel
theorem dX10_undo_31 : decode cX10_undo 31 = .ok (.ireturn, 1) := by decide +kernel
theorem dX10_type_0 : decode cX10_type 0 = .ok (.iload_n 1, 1) := by decide +kernel
theorem dX10_type_1 : decode cX10_type 1 = .ok (.bipush 32, 2) := by decide +kernel
theorem dX10_type_3 : decode cX10_type 3 = .ok (.if_icmp .lt 9, 3) := by decide +kernel
theorem dX10_type_6 : decode cX10_type 6 = .ok (.iload_n 1, 1) := by decide +kernel
theorem dX10_type_7 : decode cX10_type 7 = .ok (.bipush 126, 2) := by decide +kernel
theorem dX10_type_9 : decode cX10_type 9 = .ok (.if_icmp .le 5, 3) := by decide +kernel
theorem dX10_type_12 : decode cX10_type 12 = .ok (.iconst (-1), 1) := by decide +kernel
theorem dX10_type_13 : decode cX10_type 13 = .ok (.ireturn, 1) := by decide +kernel
theorem dX10_type_14 : decode cX10_type 14 = .ok (.aload_n 0, 1) := by decide +kernel
theorem dX10_type_15 : decode cX10_type 15 = .ok (.getfield 29, 3) := by decide +kernel
theorem dX10_type_18 : decode cX10_type 18 = .ok (.iload_n 1, 1) := by decide +kernel
theorem dX10_type_19 : decode cX10_type 19 = .ok (.i2c, 1) := by decide +kernel
theorem dX10_type_20 : decode cX10_type 20 = .ok (.invokevirtual 252, 3) := by decide +kernel
theorem dX10_type_23 : decode cX10_type 23 = .ok (.ireturn, 1) := by decide +kernel
theorem dX10_clearText_0 : decode cX10_clearText 0 = .ok (.aload_n 0, 1) := by decide +kernel
theorem dX10_clearText_1 : decode cX10_clearText 1 = .ok (.getfield 29, 3) := by decide +kernel
theorem dX10_clearText_4 : decode cX10_clearText 4 = .ok (.getfield 204, 3) := by decide +kernel
theorem dX10_clearText_7 : decode cX10_clearText 7 = .ok (.istore_n 1, 1) := by decide +kernel
theorem dX10_clearText_8 : decode cX10_clearText 8 = .ok (.aload_n 0, 1) := by decide +kernel
theorem dX10_clearText_9 : decode cX10_clearText 9 = .ok (.getfield 29, 3) := by decide +kernel
theorem dX10_clearText_12 : decode cX10_clearText 12 = .ok (.iconst 0, 1) := by decide +kernel
theorem dX10_clearText_13 : decode cX10_clearText 13 = .ok (.putfield 204, 3) := by decide +kernel
theorem dX10_clearText_16 : decode cX10_clearText 16 = .ok (.iload_n 1, 1) := by decide +kernel
theorem dX10_clearText_17 : decode cX10_clearText 17 = .ok (.ireturn, 1) := by decide +kernel
theorem dX10_fault_0 : decode cX10_fault 0 = .ok (.iload_n 1, 1) := by decide +kernel
theorem dX10_fault_1 : decode cX10_fault 1 = .ok (.ifCond .lt 8, 3) := by decide +kernel
theorem dX10_fault_4 : decode cX10_fault 4 = .ok (.iload_n 1, 1) := by decide +kernel
theorem dX10_fault_5 : decode cX10_fault 5 = .ok (.iconst 1, 1) := by decide +kernel
theorem dX10_fault_6 : decode cX10_fault 6 = .ok (.if_icmp .le 5, 3) := by decide +kernel
theorem dX10_fault_9 : decode cX10_fault 9 = .ok (.iconst (-1), 1) := by decide +kernel
theorem dX10_fault_10 : decode cX10_fault 10 = .ok (.ireturn, 1) := by decide +kernel
theorem dX10_fault_11 : decode cX10_fault 11 = .ok (.aload_n 0, 1) := by decide +kernel
theorem dX10_fault_12 : decode cX10_fault 12 = .ok (.getfield 16, 3) := by decide +kernel
theorem dX10_fault_15 : decode cX10_fault 15 = .ok (.aload_n 0, 1) := by decide +kernel
theorem dX10_fault_16 : decode cX10_fault 16 = .ok (.getfield 10, 3) := by decide +kernel
theorem dX10_fault_19 : decode cX10_fault 19 = .ok (.invokevirtual 228, 3) := by decide +kernel
theorem dX10_fault_22 : decode cX10_fault 22 = .ok (.aload_n 0, 1) := by decide +kernel
theorem dX10_fault_23 : decode cX10_fault 23 = .ok (.getfield 29, 3) := by decide +kernel
theorem dX10_fault_26 : decode cX10_fault 26 = .ok (.aload_n 0, 1) := by decide +kernel
theorem dX10_fault_27 : decode cX10_fault 27 = .ok (.getfield 16, 3) := by decide +kernel
theorem dX10_fault_30 : decode cX10_fault 30 = .ok (.invokevirtual 256, 3) := by decide +kernel
theorem dX10_fault_33 : decode cX10_fault 33 = .ok (.aload_n 0, 1) := by decide +kernel
theorem dX10_fault_34 : decode cX10_fault 34 = .ok (.getfield 29, 3) := by decide +kernel
theorem dX10_fault_37 : decode cX10_fault 37 = .ok (.getfield 259, 3) := by decide +kernel
theorem dX10_fault_40 : decode cX10_fault 40 = .ok (.iconst (-1), 1) := by decide +kernel
theorem dX10_fault_41 : decode cX10_fault 41 = .ok (.if_icmp .ne 6, 3) := by decide +kernel
theorem dX10_fault_44 : decode cX10_fault 44 = .ok (.bipush (-4), 2) := by decide +kernel
theorem dX10_fault_46 : decode cX10_fault 46 = .ok (.ireturn, 1) := by decide +kernel
theorem dX10_fault_47 : decode cX10_fault 47 = .ok (.iload_n 1, 1) := by decide +kernel
theorem dX10_fault_48 : decode cX10_fault 48 = .ok (.ifCond .ne 13, 3) := by decide +kernel
theorem dX10_fault_51 : decode cX10_fault 51 = .ok (.aload_n 0, 1) := by decide +kernel
theorem dX10_fault_52 : decode cX10_fault 52 = .ok (.getfield 29, 3) := by decide +kernel
theorem dX10_fault_55 : decode cX10_fault 55 = .ok (.getfield 262, 3) := by decide +kernel
theorem dX10_fault_58 : decode cX10_fault 58 = .ok (.goto 10, 3) := by decide +kernel
theorem dX10_fault_61 : decode cX10_fault 61 = .ok (.aload_n 0, 1) := by decide +kernel
theorem dX10_fault_62 : decode cX10_fault 62 = .ok (.getfield 29, 3) := by decide +kernel
theorem dX10_fault_65 : decode cX10_fault 65 = .ok (.getfield 259, 3) := by decide +kernel
theorem dX10_fault_68 : decode cX10_fault 68 = .ok (.ireturn, 1) := by decide +kernel
theorem dX10_play_0 : decode cX10_play 0 = .ok (.aload_n 0, 1) := by decide +kernel
theorem dX10_play_1 : decode cX10_play 1 = .ok (.getfield 16, 3) := by decide +kernel
theorem dX10_play_4 : decode cX10_play 4 = .ok (.aload_n 0, 1) := by decide +kernel
theorem dX10_play_5 : decode cX10_play 5 = .ok (.getfield 10, 3) := by decide +kernel
theorem dX10_play_8 : decode cX10_play 8 = .ok (.invokevirtual 228, 3) := by decide +kernel
theorem dX10_play_11 : decode cX10_play 11 = .ok (.aload_n 0, 1) := by decide +kernel
theorem dX10_play_12 : decode cX10_play 12 = .ok (.getfield 29, 3) := by decide +kernel
theorem dX10_play_15 : decode cX10_play 15 = .ok (.aload_n 0, 1) := by decide +kernel
theorem dX10_play_16 : decode cX10_play 16 = .ok (.getfield 16, 3) := by decide +kernel
theorem dX10_play_19 : decode cX10_play 19 = .ok (.invokevirtual 256, 3) := by decide +kernel
theorem dX10_play_22 : decode cX10_play 22 = .ok (.aload_n 0, 1) := by decide +kernel
theorem dX10_play_23 : decode cX10_play 23 = .ok (.getfield 29, 3) := by decide +kernel
theorem dX10_play_26 : decode cX10_play 26 = .ok (.getfield 259, 3) := by decide +kernel
theorem dX10_play_29 : decode cX10_play 29 = .ok (.iconst (-1), 1) := by decide +kernel
theorem dX10_play_30 : decode cX10_play 30 = .ok (.if_icmp .eq 6, 3) := by decide +kernel
theorem dX10_play_33 : decode cX10_play 33 = .ok (.bipush (-2), 2) := by decide +kernel
theorem dX10_play_35 : decode cX10_play 35 = .ok (.ireturn, 1) := by decide +kernel
theorem dX10_play_36 : decode cX10_play 36 = .ok (.aload_n 0, 1) := by decide +kernel
theorem dX10_play_37 : decode cX10_play 37 = .ok (.getfield 22, 3) := by decide +kernel
theorem dX10_play_40 : decode cX10_play 40 = .ok (.aload_n 0, 1) := by decide +kernel
theorem dX10_play_41 : decode cX10_play 41 = .ok (.getfield 10, 3) := by decide +kernel
theorem dX10_play_44 : decode cX10_play 44 = .ok (.invokevirtual 33, 3) := by decide +kernel
theorem dX10_play_47 : decode cX10_play 47 = .ok (.aload_n 0, 1) := by decide +kernel
theorem dX10_play_48 : decode cX10_play 48 = .ok (.getfield 10, 3) := by decide +kernel
theorem dX10_play_51 : decode cX10_play 51 = .ok (.aload_n 0, 1) := by decide +kernel
theorem dX10_play_52 : decode cX10_play 52 = .ok (.getfield 16, 3) := by decide +kernel
theorem dX10_play_55 : decode cX10_play 55 = .ok (.invokevirtual 228, 3) := by decide +kernel
theorem dX10_play_58 : decode cX10_play 58 = .ok (.aload_n 0, 1) := by decide +kernel
theorem dX10_play_59 : decode cX10_play 59 = .ok (.aload_n 0, 1) := by decide +kernel
theorem dX10_play_60 : decode cX10_play 60 = .ok (.getfield 29, 3) := by decide +kernel
theorem dX10_play_63 : decode cX10_play 63 = .ok (.getfield 265, 3) := by decide +kernel
theorem dX10_play_66 : decode cX10_play 66 = .ok (.invokevirtual 47, 3) := by decide +kernel
theorem dX10_play_69 : decode cX10_play 69 = .ok (.ireturn, 1) := by decide +kernel
theorem dX10_settled_0 : decode cX10_settled 0 = .ok (.iload_n 1, 1) := by decide +kernel
theorem dX10_settled_1 : decode cX10_settled 1 = .ok (.ifCond .lt 10, 3) := by decide +kernel
theorem dX10_settled_4 : decode cX10_settled 4 = .ok (.aload_n 0, 1) := by decide +kernel
theorem dX10_settled_5 : decode cX10_settled 5 = .ok (.getfield 22, 3) := by decide +kernel
theorem dX10_settled_8 : decode cX10_settled 8 = .ok (.invokevirtual 268, 3) := by decide +kernel
theorem dX10_settled_11 : decode cX10_settled 11 = .ok (.iload_n 1, 1) := by decide +kernel
theorem dX10_settled_12 : decode cX10_settled 12 = .ok (.ireturn, 1) := by decide +kernel
theorem dX10_hourOfDay_0 : decode cX10_hourOfDay 0 = .ok (.iload_n 0, 1) := by decide +kernel
theorem dX10_hourOfDay_1 : decode cX10_hourOfDay 1 = .ok (.bipush 60, 2) := by decide +kernel
theorem dX10_hourOfDay_3 : decode cX10_hourOfDay 3 = .ok (.idiv, 1) := by decide +kernel
theorem dX10_hourOfDay_4 : decode cX10_hourOfDay 4 = .ok (.bipush 24, 2) := by decide +kernel
theorem dX10_hourOfDay_6 : decode cX10_hourOfDay 6 = .ok (.irem, 1) := by decide +kernel
theorem dX10_hourOfDay_7 : decode cX10_hourOfDay 7 = .ok (.ireturn, 1) := by decide +kernel
theorem dX10_bitsOf_0 : decode cX10_bitsOf 0 = .ok (.fload_n 0, 1) := by decide +kernel
theorem dX10_bitsOf_1 : decode cX10_bitsOf 1 = .ok (.fconst 0, 1) := by decide +kernel
theorem dX10_bitsOf_2 : decode cX10_bitsOf 2 = .ok (.fcmp .l, 1) := by decide +kernel
theorem dX10_bitsOf_3 : decode cX10_bitsOf 3 = .ok (.ifCond .gt 5, 3) := by decide +kernel
theorem dX10_bitsOf_6 : decode cX10_bitsOf 6 = .ok (.iconst 0, 1) := by decide +kernel
theorem dX10_bitsOf_7 : decode cX10_bitsOf 7 = .ok (.ireturn, 1) := by decide +kernel
theorem dX10_bitsOf_8 : decode cX10_bitsOf 8 = .ok (.fload_n 0, 1) := by decide +kernel
theorem dX10_bitsOf_9 : decode cX10_bitsOf 9 = .ok (.fstore_n 1, 1) := by decide +kernel
theorem dX10_bitsOf_10 : decode cX10_bitsOf 10 = .ok (.bipush 127, 2) := by decide +kernel
theorem dX10_bitsOf_12 : decode cX10_bitsOf 12 = .ok (.istore_n 2, 1) := by decide +kernel
theorem dX10_bitsOf_13 : decode cX10_bitsOf 13 = .ok (.fload_n 1, 1) := by decide +kernel
theorem dX10_bitsOf_14 : decode cX10_bitsOf 14 = .ok (.fconst 2, 1) := by decide +kernel
theorem dX10_bitsOf_15 : decode cX10_bitsOf 15 = .ok (.fcmp .l, 1) := by decide +kernel
theorem dX10_bitsOf_16 : decode cX10_bitsOf 16 = .ok (.ifCond .lt 22, 3) := by decide +kernel
theorem dX10_bitsOf_19 : decode cX10_bitsOf 19 = .ok (.iload_n 2, 1) := by decide +kernel
theorem dX10_bitsOf_20 : decode cX10_bitsOf 20 = .ok (.sipush 254, 3) := by decide +kernel
theorem dX10_bitsOf_23 : decode cX10_bitsOf 23 = .ok (.if_icmp .ge 15, 3) := by decide +kernel
theorem dX10_bitsOf_26 : decode cX10_bitsOf 26 = .ok (.fload_n 1, 1) := by decide +kernel
theorem dX10_bitsOf_27 : decode cX10_bitsOf 27 = .ok (.ldc_w 271, 3) := by decide +kernel
theorem dX10_bitsOf_30 : decode cX10_bitsOf 30 = .ok (.fmul, 1) := by decide +kernel
theorem dX10_bitsOf_31 : decode cX10_bitsOf 31 = .ok (.fstore_n 1, 1) := by decide +kernel
theorem dX10_bitsOf_32 : decode cX10_bitsOf 32 = .ok (.iinc 2 1, 3) := by decide +kernel
theorem dX10_bitsOf_35 : decode cX10_bitsOf 35 = .ok (.goto (-22), 3) := by decide +kernel
theorem dX10_bitsOf_38 : decode cX10_bitsOf 38 = .ok (.fload_n 1, 1) := by decide +kernel
theorem dX10_bitsOf_39 : decode cX10_bitsOf 39 = .ok (.fconst 1, 1) := by decide +kernel
theorem dX10_bitsOf_40 : decode cX10_bitsOf 40 = .ok (.fcmp .g, 1) := by decide +kernel
theorem dX10_bitsOf_41 : decode cX10_bitsOf 41 = .ok (.ifCond .ge 18, 3) := by decide +kernel
theorem dX10_bitsOf_44 : decode cX10_bitsOf 44 = .ok (.iload_n 2, 1) := by decide +kernel
theorem dX10_bitsOf_45 : decode cX10_bitsOf 45 = .ok (.iconst 1, 1) := by decide +kernel
theorem dX10_bitsOf_46 : decode cX10_bitsOf 46 = .ok (.if_icmp .le 13, 3) := by decide +kernel
theorem dX10_bitsOf_49 : decode cX10_bitsOf 49 = .ok (.fload_n 1, 1) := by decide +kernel
theorem dX10_bitsOf_50 : decode cX10_bitsOf 50 = .ok (.fconst 2, 1) := by decide +kernel
theorem dX10_bitsOf_51 : decode cX10_bitsOf 51 = .ok (.fmul, 1) := by decide +kernel
theorem dX10_bitsOf_52 : decode cX10_bitsOf 52 = .ok (.fstore_n 1, 1) := by decide +kernel
theorem dX10_bitsOf_53 : decode cX10_bitsOf 53 = .ok (.iinc 2 (-1), 3) := by decide +kernel
theorem dX10_bitsOf_56 : decode cX10_bitsOf 56 = .ok (.goto (-18), 3) := by decide +kernel
theorem dX10_bitsOf_59 : decode cX10_bitsOf 59 = .ok (.iload_n 2, 1) := by decide +kernel
theorem dX10_bitsOf_60 : decode cX10_bitsOf 60 = .ok (.bipush 23, 2) := by decide +kernel
theorem dX10_bitsOf_62 : decode cX10_bitsOf 62 = .ok (.ishl, 1) := by decide +kernel
theorem dX10_bitsOf_63 : decode cX10_bitsOf 63 = .ok (.fload_n 1, 1) := by decide +kernel
theorem dX10_bitsOf_64 : decode cX10_bitsOf 64 = .ok (.fconst 1, 1) := by decide +kernel
theorem dX10_bitsOf_65 : decode cX10_bitsOf 65 = .ok (.fsub, 1) := by decide +kernel
theorem dX10_bitsOf_66 : decode cX10_bitsOf 66 = .ok (.ldc_w 272, 3) := by decide +kernel
theorem dX10_bitsOf_69 : decode cX10_bitsOf 69 = .ok (.fmul, 1) := by decide +kernel
theorem dX10_bitsOf_70 : decode cX10_bitsOf 70 = .ok (.f2i, 1) := by decide +kernel
theorem dX10_bitsOf_71 : decode cX10_bitsOf 71 = .ok (.iadd, 1) := by decide +kernel
theorem dX10_bitsOf_72 : decode cX10_bitsOf 72 = .ok (.ireturn, 1) := by decide +kernel
