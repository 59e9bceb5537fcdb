theorem dX11_init_0 : decode cX11_init 0 = .ok (.aload_n 0, 1) := by decide +kernel
theorem dX11_init_1 : decode cX11_init 1 = .ok (.invokespecial 1, 3) := by decide +kernel
theorem dX11_init_4 : decode cX11_init 4 = .ok (.aload_n 0, 1) := by decide +kernel
theorem dX11_init_5 : decode cX11_init 5 = .ok (.sipush 229, 3) := by decide +kernel
theorem dX11_init_8 : decode cX11_init 8 = .ok (.newarray .int, 2) := by decide +kernel
theorem dX11_init_10 : decode cX11_init 10 = .ok (.putfield 7, 3) := by decide +kernel
theorem dX11_init_13 : decode cX11_init 13 = .ok (.aload_n 0, 1) := by decide +kernel
theorem dX11_init_14 : decode cX11_init 14 = .ok (.sipush 229, 3) := by decide +kernel
theorem dX11_init_17 : decode cX11_init 17 = .ok (.newarray .int, 2) := by decide +kernel
theorem dX11_init_19 : decode cX11_init 19 = .ok (.putfield 13, 3) := by decide +kernel
theorem dX11_init_22 : decode cX11_init 22 = .ok (.aload_n 0, 1) := by decide +kernel
theorem dX11_init_23 : decode cX11_init 23 = .ok (.sipush 229, 3) := by decide +kernel
theorem dX11_init_26 : decode cX11_init 26 = .ok (.newarray .int, 2) := by decide +kernel
theorem dX11_init_28 : decode cX11_init 28 = .ok (.putfield 16, 3) := by decide +kernel
theorem dX11_init_31 : decode cX11_init 31 = .ok (.aload_n 0, 1) := by decide +kernel
theorem dX11_init_32 : decode cX11_init 32 = .ok (.sipush 916, 3) := by decide +kernel
theorem dX11_init_35 : decode cX11_init 35 = .ok (.newarray .int, 2) := by decide +kernel
theorem dX11_init_37 : decode cX11_init 37 = .ok (.putfield 19, 3) := by decide +kernel
theorem dX11_init_40 : decode cX11_init 40 = .ok (.aload_n 0, 1) := by decide +kernel
theorem dX11_init_41 : decode cX11_init 41 = .ok (.bipush 80, 2) := by decide +kernel
theorem dX11_init_43 : decode cX11_init 43 = .ok (.newarray .int, 2) := by decide +kernel
theorem dX11_init_45 : decode cX11_init 45 = .ok (.putfield 22, 3) := by decide +kernel
theorem dX11_init_48 : decode cX11_init 48 = .ok (.aload_n 0, 1) := by decide +kernel
theorem dX11_init_49 : decode cX11_init 49 = .ok (.iconst 3, 1) := by decide +kernel
theorem dX11_init_50 : decode cX11_init 50 = .ok (.newarray .int, 2) := by decide +kernel
theorem dX11_init_52 : decode cX11_init 52 = .ok (.putfield 25, 3) := by decide +kernel
theorem dX11_init_55 : decode cX11_init 55 = .ok (.aload_n 0, 1) := by decide +kernel
theorem dX11_init_56 : decode cX11_init 56 = .ok (.getfield 7, 3) := by decide +kernel
theorem dX11_init_59 : decode cX11_init 59 = .ok (.bipush 13, 2) := by decide +kernel
theorem dX11_init_61 : decode cX11_init 61 = .ok (.bipush 10, 2) := by decide +kernel
theorem dX11_init_63 : decode cX11_init 63 = .ok (.iastore, 1) := by decide +kernel
theorem dX11_init_64 : decode cX11_init 64 = .ok (.aload_n 0, 1) := by decide +kernel
theorem dX11_init_65 : decode cX11_init 65 = .ok (.getfield 7, 3) := by decide +kernel
theorem dX11_init_68 : decode cX11_init 68 = .ok (.bipush 14, 2) := by decide +kernel
theorem dX11_init_70 : decode cX11_init 70 = .ok (.bipush 30, 2) := by decide +kernel
theorem dX11_init_72 : decode cX11_init 72 = .ok (.iastore, 1) := by decide +kernel
theorem dX11_init_73 : decode cX11_init 73 = .ok (.return_, 1) := by decide +kernel
theorem dX11_in_0 : decode cX11_in 0 = .ok (.iload_n 0, 1) := by decide +kernel
theorem dX11_in_1 : decode cX11_in 1 = .ok (.iload_n 1, 1) := by decide +kernel
theorem dX11_in_2 : decode cX11_in 2 = .ok (.if_icmp .lt 12, 3) := by decide +kernel
theorem dX11_in_5 : decode cX11_in 5 = .ok (.iload_n 0, 1) := by decide +kernel
theorem dX11_in_6 : decode cX11_in 6 = .ok (.iload_n 2, 1) := by decide +kernel
theorem dX11_in_7 : decode cX11_in 7 = .ok (.if_icmp .gt 7, 3) := by decide +kernel
theorem dX11_in_10 : decode cX11_in 10 = .ok (.iconst 1, 1) := by decide +kernel
theorem dX11_in_11 : decode cX11_in 11 = .ok (.goto 4, 3) := by decide +kernel
theorem dX11_in_14 : decode cX11_in 14 = .ok (.iconst 0, 1) := by decide +kernel
theorem dX11_in_15 : decode cX11_in 15 = .ok (.ireturn, 1) := by decide +kernel
theorem dX11_begins_0 : decode cX11_begins 0 = .ok (.iconst 0, 1) := by decide +kernel
theorem dX11_begins_1 : decode cX11_begins 1 = .ok (.istore_n 1, 1) := by decide +kernel
theorem dX11_begins_2 : decode cX11_begins 2 = .ok (.iload_n 1, 1) := by decide +kernel
theorem dX11_begins_3 : decode cX11_begins 3 = .ok (.sipush 229, 3) := by decide +kernel
theorem dX11_begins_6 : decode cX11_begins 6 = .ok (.if_icmp .ge 21, 3) := by decide +kernel
theorem dX11_begins_9 : decode cX11_begins 9 = .ok (.aload_n 0, 1) := by decide +kernel
theorem dX11_begins_10 : decode cX11_begins 10 = .ok (.getfield 13, 3) := by decide +kernel
theorem dX11_begins_13 : decode cX11_begins 13 = .ok (.iload_n 1, 1) := by decide +kernel
theorem dX11_begins_14 : decode cX11_begins 14 = .ok (.aload_n 0, 1) := by decide +kernel
theorem dX11_begins_15 : decode cX11_begins 15 = .ok (.getfield 7, 3) := by decide +kernel
theorem dX11_begins_18 : decode cX11_begins 18 = .ok (.iload_n 1, 1) := by decide +kernel
theorem dX11_begins_19 : decode cX11_begins 19 = .ok (.iaload, 1) := by decide +kernel
theorem dX11_begins_20 : decode cX11_begins 20 = .ok (.iastore, 1) := by decide +kernel
theorem dX11_begins_21 : decode cX11_begins 21 = .ok (.iinc 1 1, 3) := by decide +kernel
theorem dX11_begins_24 : decode cX11_begins 24 = .ok (.goto (-22), 3) := by decide +kernel
theorem dX11_begins_27 : decode cX11_begins 27 = .ok (.return_, 1) := by decide +kernel
theorem dX11_returns_0 : decode cX11_returns 0 = .ok (.iconst 0, 1) := by decide +kernel
theorem dX11_returns_1 : decode cX11_returns 1 = .ok (.istore_n 1, 1) := by decide +kernel
theorem dX11_returns_2 : decode cX11_returns 2 = .ok (.iload_n 1, 1) := by decide +kernel
theorem dX11_returns_3 : decode cX11_returns 3 = .ok (.sipush 229, 3) := by decide +kernel
theorem dX11_returns_6 : decode cX11_returns 6 = .ok (.if_icmp .ge 21, 3) := by decide +kernel
theorem dX11_returns_9 : decode cX11_returns 9 = .ok (.aload_n 0, 1) := by decide +kernel
theorem dX11_returns_10 : decode cX11_returns 10 = .ok (.getfield 7, 3) := by decide +kernel
theorem dX11_returns_13 : decode cX11_returns 13 = .ok (.iload_n 1, 1) := by decide +kernel
theorem dX11_returns_14 : decode cX11_returns 14 = .ok (.aload_n 0, 1) := by decide +kernel
theorem dX11_returns_15 : decode cX11_returns 15 = .ok (.getfield 13, 3) := by decide +kernel
theorem dX11_returns_18 : decode cX11_returns 18 = .ok (.iload_n 1, 1) := by decide +kernel
theorem dX11_returns_19 : decode cX11_returns 19 = .ok (.iaload, 1) := by decide +kernel
theorem dX11_returns_20 : decode cX11_returns 20 = .ok (.iastore, 1) := by decide +kernel
theorem dX11_returns_21 : decode cX11_returns 21 = .ok (.iinc 1 1, 3) := by decide +kernel
theorem dX11_returns_24 : decode cX11_returns 24 = .ok (.goto (-22), 3) := by decide +kernel
theorem dX11_returns_27 : decode cX11_returns 27 = .ok (.return_, 1) := by decide +kernel
theorem dX11_acted_0 : decode cX11_acted 0 = .ok (.iload_n 1, 1) := by decide +kernel
theorem dX11_acted_1 : decode cX11_acted 1 = .ok (.ifCond .ge 5, 3) := by decide +kernel
theorem dX11_acted_4 : decode cX11_acted 4 = .ok (.iload_n 1, 1) := by decide +kernel
theorem dX11_acted_5 : decode cX11_acted 5 = .ok (.ireturn, 1) := by decide +kernel
theorem dX11_acted_6 : decode cX11_acted 6 = .ok (.aload_n 0, 1) := by decide +kernel
theorem dX11_acted_7 : decode cX11_acted 7 = .ok (.getfield 28, 3) := by decide +kernel
theorem dX11_acted_10 : decode cX11_acted 10 = .ok (.iconst 4, 1) := by decide +kernel
theorem dX11_acted_11 : decode cX11_acted 11 = .ok (.if_icmp .ne 44, 3) := by decide +kernel
theorem dX11_acted_14 : decode cX11_acted 14 = .ok (.iconst 0, 1) := by decide +kernel
theorem dX11_acted_15 : decode cX11_acted 15 = .ok (.istore_n 2, 1) := by decide +kernel
theorem dX11_acted_16 : decode cX11_acted 16 = .ok (.iload_n 2, 1) := by decide +kernel
theorem dX11_acted_17 : decode cX11_acted 17 = .ok (.sipush 687, 3) := by decide +kernel
theorem dX11_acted_20 : decode cX11_acted 20 = .ok (.if_icmp .ge 25, 3) := by decide +kernel
theorem dX11_acted_23 : decode cX11_acted 23 = .ok (.aload_n 0, 1) := by decide +kernel
theorem dX11_acted_24 : decode cX11_acted 24 = .ok (.getfield 19, 3) := by decide +kernel
theorem dX11_acted_27 : decode cX11_acted 27 = .ok (.iload_n 2, 1) := by decide +kernel
theorem dX11_acted_28 : decode cX11_acted 28 = .ok (.aload_n 0, 1) := by decide +kernel
theorem dX11_acted_29 : decode cX11_acted 29 = .ok (.getfield 19, 3) := by decide +kernel
theorem dX11_acted_32 : decode cX11_acted 32 = .ok (.iload_n 2, 1) := by decide +kernel
theorem dX11_acted_33 : decode cX11_acted 33 = .ok (.sipush 229, 3) := by decide +kernel
theorem dX11_acted_36 : decode cX11_acted 36 = .ok (.iadd, 1) := by decide +kernel
theorem dX11_acted_37 : decode cX11_acted 37 = .ok (.iaload, 1) := by decide +kernel
theorem dX11_acted_38 : decode cX11_acted 38 = .ok (.iastore, 1) := by decide +kernel
theorem dX11_acted_39 : decode cX11_acted 39 = .ok (.iinc 2 1, 3) := by decide +kernel
theorem dX11_acted_42 : decode cX11_acted 42 = .ok (.goto (-26), 3) := by decide +kernel
theorem dX11_acted_45 : decode cX11_acted 45 = .ok (.aload_n 0, 1) := by decide +kernel
theorem dX11_acted_46 : decode cX11_acted 46 = .ok (.dup, 1) := by decide +kernel
theorem dX11_acted_47 : decode cX11_acted 47 = .ok (.getfield 28, 3) := by decide +kernel
theorem dX11_acted_50 : decode cX11_acted 50 = .ok (.iconst 1, 1) := by decide +kernel
theorem dX11_acted_51 : decode cX11_acted 51 = .ok (.isub, 1) := by decide +kernel
theorem dX11_acted_52 : decode cX11_acted 52 = .ok (.putfield 28, 3) := by decide +kernel
theorem dX11_acted_55 : decode cX11_acted 55 = .ok (.iconst 0, 1) := by decide +kernel
theorem dX11_acted_56 : decode cX11_acted 56 = .ok (.istore_n 2, 1) := by decide +kernel
theorem dX11_acted_57 : decode cX11_acted 57 = .ok (.iload_n 2, 1) := by decide +kernel
theorem dX11_acted_58 : decode cX11_acted 58 = .ok (.sipush 229, 3) := by decide +kernel
theorem dX11_acted_61 : decode cX11_acted 61 = .ok (.if_icmp .ge 30, 3) := by decide +kernel
theorem dX11_acted_64 : decode cX11_acted 64 = .ok (.aload_n 0, 1) := by decide +kernel
theorem dX11_acted_65 : decode cX11_acted 65 = .ok (.getfield 19, 3) := by decide +kernel
theorem dX11_acted_68 : decode cX11_acted 68 = .ok (.sipush 229, 3) := by decide +kernel
theorem dX11_acted_71 : decode cX11_acted 71 = .ok (.aload_n 0, 1) := by decide +kernel
theorem dX11_acted_72 : decode cX11_acted 72 = .ok (.getfield 28, 3) := by decide +kernel
theorem dX11_acted_75 : decode cX11_acted 75 = .ok (.imul, 1) := by decide +kernel
theorem dX11_acted_76 : decode cX11_acted 76 = .ok (.iload_n 2, 1) := by decide +kernel
theorem dX11_acted_77 : decode cX11_acted 77 = .ok (.iadd, 1) := by decide +kernel
theorem dX11_acted_78 : decode cX11_acted 78 = .ok (.aload_n 0, 1) := by decide +kernel
theorem dX11_acted_79 : decode cX11_acted 79 = .ok (.getfield 13, 3) := by decide +kernel
theorem dX11_acted_82 : decode cX11_acted 82 = .ok (.iload_n 2, 1) := by decide +kernel
theorem dX11_acted_83 : decode cX11_acted 83 = .ok (.iaload, 1) := by decide +kernel
theorem dX11_acted_84 : decode cX11_acted 84 = .ok (.iastore, 1) := by decide +kernel
theorem dX11_acted_85 : decode cX11_acted 85 = .ok (.iinc 2 1, 3) := by decide +kernel
theorem dX11_acted_88 : decode cX11_acted 88 = .ok (.goto (-31), 3) := by decide +kernel
theorem dX11_acted_91 : decode cX11_acted 91 = .ok (.aload_n 0, 1) := by decide +kernel
theorem dX11_acted_92 : decode cX11_acted 92 = .ok (.dup, 1) := by decide +kernel
theorem dX11_acted_93 : decode cX11_acted 93 = .ok (.getfield 28, 3) := by decide +kernel
theorem dX11_acted_96 : decode cX11_acted 96 = .ok (.iconst 1, 1) := by decide +kernel
theorem dX11_acted_97 : decode cX11_acted 97 = .ok (.iadd, 1) := by decide +kernel
theorem dX11_acted_98 : decode cX11_acted 98 = .ok (.putfield 28, 3) := by decide +kernel
theorem dX11_acted_101 : decode cX11_acted 101 = .ok (.iload_n 1, 1) := by decide +kernel
theorem dX11_acted_102 : decode cX11_acted 102 = .ok (.ireturn, 1) := by decide +kernel
theorem dX11_isPerson_0 : decode cX11_isPerson 0 = .ok (.iload_n 1, 1) := by decide +kernel
theorem dX11_isPerson_1 : decode cX11_isPerson 1 = .ok (.iconst 0, 1) := by decide +kernel
theorem dX11_isPerson_2 : decode cX11_isPerson 2 = .ok (.aload_n 0, 1) := by decide +kernel
theorem dX11_isPerson_3 : decode cX11_isPerson 3 = .ok (.getfield 7, 3) := by decide +kernel
theorem dX11_isPerson_6 : decode cX11_isPerson 6 = .ok (.iconst 0, 1) := by decide +kernel
theorem dX11_isPerson_7 : decode cX11_isPerson 7 = .ok (.iaload, 1) := by decide +kernel
theorem dX11_isPerson_8 : decode cX11_isPerson 8 = .ok (.iconst 1, 1) := by decide +kernel
theorem dX11_isPerson_9 : decode cX11_isPerson 9 = .ok (.isub, 1) := by decide +kernel
theorem dX11_isPerson_10 : decode cX11_isPerson 10 = .ok (.invokestatic 32, 3) := by decide +kernel
theorem dX11_isPerson_13 : decode cX11_isPerson 13 = .ok (.ireturn, 1) := by decide +kernel
theorem dX11_isRegion_0 : decode cX11_isRegion 0 = .ok (.iload_n 1, 1) := by decide +kernel
theorem dX11_isRegion_1 : decode cX11_isRegion 1 = .ok (.iconst 0, 1) := by decide +kernel
theorem dX11_isRegion_2 : decode cX11_isRegion 2 = .ok (.aload_n 0, 1) := by decide +kernel
theorem dX11_isRegion_3 : decode cX11_isRegion 3 = .ok (.getfield 7, 3) := by decide +kernel
theorem dX11_isRegion_6 : decode cX11_isRegion 6 = .ok (.iconst 1, 1) := by decide +kernel
theorem dX11_isRegion_7 : decode cX11_isRegion 7 = .ok (.iaload, 1) := by decide +kernel
theorem dX11_isRegion_8 : decode cX11_isRegion 8 = .ok (.iconst 1, 1) := by decide +kernel
theorem dX11_isRegion_9 : decode cX11_isRegion 9 = .ok (.isub, 1) := by decide +kernel
theorem dX11_isRegion_10 : decode cX11_isRegion 10 = .ok (.invokestatic 32, 3) := by decide +kernel
theorem dX11_isRegion_13 : decode cX11_isRegion 13 = .ok (.ireturn, 1) := by decide +kernel
theorem dX11_incidentAt_0 : decode cX11_incidentAt 0 = .ok (.bipush 101, 2) := by decide +kernel
theorem dX11_incidentAt_2 : decode cX11_incidentAt 2 = .ok (.bipush 16, 2) := by decide +kernel
theorem dX11_incidentAt_4 : decode cX11_incidentAt 4 = .ok (.iload_n 0, 1) := by decide +kernel
theorem dX11_incidentAt_5 : decode cX11_incidentAt 5 = .ok (.imul, 1) := by decide +kernel
theorem dX11_incidentAt_6 : decode cX11_incidentAt 6 = .ok (.iadd, 1) := by decide +kernel
theorem dX11_incidentAt_7 : decode cX11_incidentAt 7 = .ok (.ireturn, 1) := by decide +kernel
theorem dX11_isIncident_0 : decode cX11_isIncident 0 = .ok (.iload_n 1, 1) := by decide +kernel
theorem dX11_isIncident_1 : decode cX11_isIncident 1 = .ok (.iconst 0, 1) := by decide +kernel
theorem dX11_isIncident_2 : decode cX11_isIncident 2 = .ok (.bipush 7, 2) := by decide +kernel
theorem dX11_isIncident_4 : decode cX11_isIncident 4 = .ok (.invokestatic 32, 3) := by decide +kernel
theorem dX11_isIncident_7 : decode cX11_isIncident 7 = .ok (.ifCond .eq 22, 3) := by decide +kernel
theorem dX11_isIncident_10 : decode cX11_isIncident 10 = .ok (.aload_n 0, 1) := by decide +kernel
theorem dX11_isIncident_11 : decode cX11_isIncident 11 = .ok (.getfield 7, 3) := by decide +kernel
theorem dX11_isIncident_14 : decode cX11_isIncident 14 = .ok (.iload_n 1, 1) := by decide +kernel
theorem dX11_isIncident_15 : decode cX11_isIncident 15 = .ok (.invokestatic 36, 3) := by decide +kernel
theorem dX11_isIncident_18 : decode cX11_isIncident 18 = .ok (.iconst 0, 1) := by decide +kernel
theorem dX11_isIncident_19 : decode cX11_isIncident 19 = .ok (.iadd, 1) := by decide +kernel
theorem dX11_isIncident_20 : decode cX11_isIncident 20 = .ok (.iaload, 1) := by decide +kernel
theorem dX11_isIncident_21 : decode cX11_isIncident 21 = .ok (.iconst 1, 1) := by decide +kernel
theorem dX11_isIncident_22 : decode cX11_isIncident 22 = .ok (.if_icmp .ne 7, 3) := by decide +kernel
theorem dX11_isIncident_25 : decode cX11_isIncident 25 = .ok (.iconst 1, 1) := by decide +kernel
theorem dX11_isIncident_26 : decode cX11_isIncident 26 = .ok (.goto 4, 3) := by decide +kernel
theorem dX11_isIncident_29 : decode cX11_isIncident 29 = .ok (.iconst 0, 1) := by decide +kernel
theorem dX11_isIncident_30 : decode cX11_isIncident 30 = .ok (.ireturn, 1) := by decide +kernel
theorem dX11_ofWho_0 : decode cX11_ofWho 0 = .ok (.aload_n 0, 1) := by decide +kernel
theorem dX11_ofWho_1 : decode cX11_ofWho 1 = .ok (.getfield 7, 3) := by decide +kernel
theorem dX11_ofWho_4 : decode cX11_ofWho 4 = .ok (.bipush 16, 2) := by decide +kernel
theorem dX11_ofWho_6 : decode cX11_ofWho 6 = .ok (.iconst 5, 1) := by decide +kernel
theorem dX11_ofWho_7 : decode cX11_ofWho 7 = .ok (.iload_n 1, 1) := by decide +kernel
theorem dX11_ofWho_8 : decode cX11_ofWho 8 = .ok (.imul, 1) := by decide +kernel
theorem dX11_ofWho_9 : decode cX11_ofWho 9 = .ok (.iadd, 1) := by decide +kernel
theorem dX11_ofWho_10 : decode cX11_ofWho 10 = .ok (.iload_n 2, 1) := by decide +kernel
theorem dX11_ofWho_11 : decode cX11_ofWho 11 = .ok (.iadd, 1) := by decide +kernel
theorem dX11_ofWho_12 : decode cX11_ofWho 12 = .ok (.iaload, 1) := by decide +kernel
theorem dX11_ofWho_13 : decode cX11_ofWho 13 = .ok (.ireturn, 1) := by decide +kernel
theorem dX11_ofWhere_0 : decode cX11_ofWhere 0 = .ok (.aload_n 0, 1) := by decide +kernel
theorem dX11_ofWhere_1 : decode cX11_ofWhere 1 = .ok (.getfield 7, 3) := by decide +kernel
theorem dX11_ofWhere_4 : decode cX11_ofWhere 4 = .ok (.bipush 56, 2) := by decide +kernel
theorem dX11_ofWhere_6 : decode cX11_ofWhere 6 = .ok (.bipush 9, 2) := by decide +kernel
theorem dX11_ofWhere_8 : decode cX11_ofWhere 8 = .ok (.iload_n 1, 1) := by decide +kernel
theorem dX11_ofWhere_9 : decode cX11_ofWhere 9 = .ok (.imul, 1) := by decide +kernel
theorem dX11_ofWhere_10 : decode cX11_ofWhere 10 = .ok (.iadd, 1) := by decide +kernel
theorem dX11_ofWhere_11 : decode cX11_ofWhere 11 = .ok (.iload_n 2, 1) := by decide +kernel
theorem dX11_ofWhere_12 : decode cX11_ofWhere 12 = .ok (.iadd, 1) := by decide +kernel
theorem dX11_ofWhere_13 : decode cX11_ofWhere 13 = .ok (.iaload, 1) := by decide +kernel
theorem dX11_ofWhere_14 : decode cX11_ofWhere 14 = .ok (.ireturn, 1) := by decide +kernel
theorem dX11_isWithin_0 : decode cX11_isWithin 0 = .ok (.iload_n 1, 1) := by decide +kernel
theorem dX11_isWithin_1 : decode cX11_isWithin 1 = .ok (.iload_n 2, 1) := by decide +kernel
theorem dX11_isWithin_2 : decode cX11_isWithin 2 = .ok (.if_icmp .gt 21, 3) := by decide +kernel
theorem dX11_isWithin_5 : decode cX11_isWithin 5 = .ok (.iload_n 0, 1) := by decide +kernel
theorem dX11_isWithin_6 : decode cX11_isWithin 6 = .ok (.iload_n 1, 1) := by decide +kernel
theorem dX11_isWithin_7 : decode cX11_isWithin 7 = .ok (.if_icmp .lt 12, 3) := by decide +kernel
theorem dX11_isWithin_10 : decode cX11_isWithin 10 = .ok (.iload_n 0, 1) := by decide +kernel
theorem dX11_isWithin_11 : decode cX11_isWithin 11 = .ok (.iload_n 2, 1) := by decide +kernel
theorem dX11_isWithin_12 : decode cX11_isWithin 12 = .ok (.if_icmp .ge 7, 3) := by decide +kernel
theorem dX11_isWithin_15 : decode cX11_isWithin 15 = .ok (.iconst 1, 1) := by decide +kernel
theorem dX11_isWithin_16 : decode cX11_isWithin 16 = .ok (.goto 22, 3) := by decide +kernel
theorem dX11_isWithin_19 : decode cX11_isWithin 19 = .ok (.iconst 0, 1) := by decide +kernel
theorem dX11_isWithin_20 : decode cX11_isWithin 20 = .ok (.goto 18, 3) := by decide +kernel
theorem dX11_isWithin_23 : decode cX11_isWithin 23 = .ok (.iload_n 0, 1) := by decide +kernel
theorem dX11_isWithin_24 : decode cX11_isWithin 24 = .ok (.iload_n 1, 1) := by decide +kernel
theorem dX11_isWithin_25 : decode cX11_isWithin 25 = .ok (.if_icmp .ge 8, 3) := by decide +kernel
theorem dX11_isWithin_28 : decode cX11_isWithin 28 = .ok (.iload_n 0, 1) := by decide +kernel
theorem dX11_isWithin_29 : decode cX11_isWithin 29 = .ok (.iload_n 2, 1) := by decide +kernel
theorem dX11_isWithin_30 : decode cX11_isWithin 30 = .ok (.if_icmp .ge 7, 3) := by decide +kernel
theorem dX11_isWithin_33 : decode cX11_isWithin 33 = .ok (.iconst 1, 1) := by decide +kernel
theorem dX11_isWithin_34 : decode cX11_isWithin 34 = .ok (.goto 4, 3) := by decide +kernel
theorem dX11_isWithin_37 : decode cX11_isWithin 37 = .ok (.iconst 0, 1) := by decide +kernel
theorem dX11_isWithin_38 : decode cX11_isWithin 38 = .ok (.ireturn, 1) := by decide +kernel
theorem dX11_covers_0 : decode cX11_covers 0 = .ok (.aload_n 0, 1) := by decide +kernel
theorem dX11_covers_1 : decode cX11_covers 1 = .ok (.iload_n 1, 1) := by decide +kernel
theorem dX11_covers_2 : decode cX11_covers 2 = .ok (.iconst 3, 1) := by decide +kernel
theorem dX11_covers_3 : decode cX11_covers 3 = .ok (.invokevirtual 40, 3) := by decide +kernel
theorem dX11_covers_6 : decode cX11_covers 6 = .ok (.ifCond .le 26, 3) := by decide +kernel
theorem dX11_covers_9 : decode cX11_covers 9 = .ok (.iload_n 2, 1) := by decide +kernel
theorem dX11_covers_10 : decode cX11_covers 10 = .ok (.aload_n 0, 1) := by decide +kernel
theorem dX11_covers_11 : decode cX11_covers 11 = .ok (.iload_n 1, 1) := by decide +kernel
theorem dX11_covers_12 : decode cX11_covers 12 = .ok (.iconst 0, 1) := by decide +kernel
theorem dX11_covers_13 : decode cX11_covers 13 = .ok (.invokevirtual 40, 3) := by decide +kernel
theorem dX11_covers_16 : decode cX11_covers 16 = .ok (.aload_n 0, 1) := by decide +kernel
theorem dX11_covers_17 : decode cX11_covers 17 = .ok (.iload_n 1, 1) := by decide +kernel
theorem dX11_covers_18 : decode cX11_covers 18 = .ok (.iconst 1, 1) := by decide +kernel
theorem dX11_covers_19 : decode cX11_covers 19 = .ok (.invokevirtual 40, 3) := by decide +kernel
theorem dX11_covers_22 : decode cX11_covers 22 = .ok (.invokestatic 44, 3) := by decide +kernel
theorem dX11_covers_25 : decode cX11_covers 25 = .ok (.ifCond .eq 7, 3) := by decide +kernel
theorem dX11_covers_28 : decode cX11_covers 28 = .ok (.iconst 1, 1) := by decide +kernel
theorem dX11_covers_29 : decode cX11_covers 29 = .ok (.goto 4, 3) := by decide +kernel
theorem dX11_covers_32 : decode cX11_covers 32 = .ok (.iconst 0, 1) := by decide +kernel
theorem dX11_covers_33 : decode cX11_covers 33 = .ok (.ireturn, 1) := by decide +kernel
theorem dX11_regionAt_0 : decode cX11_regionAt 0 = .ok (.iload_n 1, 1) := by decide +kernel
theorem dX11_regionAt_1 : decode cX11_regionAt 1 = .ok (.bipush 60, 2) := by decide +kernel
theorem dX11_regionAt_3 : decode cX11_regionAt 3 = .ok (.idiv, 1) := by decide +kernel
theorem dX11_regionAt_4 : decode cX11_regionAt 4 = .ok (.bipush 24, 2) := by decide +kernel
theorem dX11_regionAt_6 : decode cX11_regionAt 6 = .ok (.irem, 1) := by decide +kernel
theorem dX11_regionAt_7 : decode cX11_regionAt 7 = .ok (.istore_n 2, 1) := by decide +kernel
theorem dX11_regionAt_8 : decode cX11_regionAt 8 = .ok (.iconst 0, 1) := by decide +kernel
theorem dX11_regionAt_9 : decode cX11_regionAt 9 = .ok (.istore_n 3, 1) := by decide +kernel
theorem dX11_regionAt_10 : decode cX11_regionAt 10 = .ok (.iload_n 3, 1) := by decide +kernel
theorem dX11_regionAt_11 : decode cX11_regionAt 11 = .ok (.aload_n 0, 1) := by decide +kernel
theorem dX11_regionAt_12 : decode cX11_regionAt 12 = .ok (.getfield 7, 3) := by decide +kernel
theorem dX11_regionAt_15 : decode cX11_regionAt 15 = .ok (.iconst 1, 1) := by decide +kernel
theorem dX11_regionAt_16 : decode cX11_regionAt 16 = .ok (.iaload, 1) := by decide +kernel
theorem dX11_regionAt_17 : decode cX11_regionAt 17 = .ok (.if_icmp .ge 20, 3) := by decide +kernel
theorem dX11_regionAt_20 : decode cX11_regionAt 20 = .ok (.aload_n 0, 1) := by decide +kernel
theorem dX11_regionAt_21 : decode cX11_regionAt 21 = .ok (.iload_n 3, 1) := by decide +kernel
theorem dX11_regionAt_22 : decode cX11_regionAt 22 = .ok (.iload_n 2, 1) := by decide +kernel
theorem dX11_regionAt_23 : decode cX11_regionAt 23 = .ok (.invokevirtual 47, 3) := by decide +kernel
theorem dX11_regionAt_26 : decode cX11_regionAt 26 = .ok (.ifCond .eq 5, 3) := by decide +kernel
theorem dX11_regionAt_29 : decode cX11_regionAt 29 = .ok (.iload_n 3, 1) := by decide +kernel
theorem dX11_regionAt_30 : decode cX11_regionAt 30 = .ok (.ireturn, 1) := by decide +kernel
theorem dX11_regionAt_31 : decode cX11_regionAt 31 = .ok (.iinc 3 1, 3) := by decide +kernel
theorem dX11_regionAt_34 : decode cX11_regionAt 34 = .ok (.goto (-24), 3) := by decide +kernel
theorem dX11_regionAt_37 : decode cX11_regionAt 37 = .ok (.iconst (-1), 1) := by decide +kernel
theorem dX11_regionAt_38 : decode cX11_regionAt 38 = .ok (.ireturn, 1) := by decide +kernel
theorem dX11_personAt_0 : decode cX11_personAt 0 = .ok (.aload_n 0, 1) := by decide +kernel
theorem dX11_personAt_1 : decode cX11_personAt 1 = .ok (.iload_n 1, 1) := by decide +kernel
theorem dX11_personAt_2 : decode cX11_personAt 2 = .ok (.invokevirtual 51, 3) := by decide +kernel
theorem dX11_personAt_5 : decode cX11_personAt 5 = .ok (.istore_n 3, 1) := by decide +kernel
theorem dX11_personAt_6 : decode cX11_personAt 6 = .ok (.iload_n 3, 1) := by decide +kernel
theorem dX11_personAt_7 : decode cX11_personAt 7 = .ok (.ifCond .ge 5, 3) := by decide +kernel
theorem dX11_personAt_10 : decode cX11_personAt 10 = .ok (.iconst (-1), 1) := by decide +kernel
theorem dX11_personAt_11 : decode cX11_personAt 11 = .ok (.ireturn, 1) := by decide +kernel
theorem dX11_personAt_12 : decode cX11_personAt 12 = .ok (.iconst (-1), 1) := by decide +kernel
theorem dX11_personAt_13 : decode cX11_personAt 13 = .ok (.istore 4, 2) := by decide +kernel
theorem dX11_personAt_15 : decode cX11_personAt 15 = .ok (.iconst 0, 1) := by decide +kernel
theorem dX11_personAt_16 : decode cX11_personAt 16 = .ok (.istore 5, 2) := by decide +kernel
theorem dX11_personAt_18 : decode cX11_personAt 18 = .ok (.iload 5, 2) := by decide +kernel
theorem dX11_personAt_20 : decode cX11_personAt 20 = .ok (.aload_n 0, 1) := by decide +kernel
theorem dX11_personAt_21 : decode cX11_personAt 21 = .ok (.getfield 7, 3) := by decide +kernel
theorem dX11_personAt_24 : decode cX11_personAt 24 = .ok (.bipush 15, 2) := by decide +kernel
theorem dX11_personAt_26 : decode cX11_personAt 26 = .ok (.iaload, 1) := by decide +kernel
theorem dX11_personAt_27 : decode cX11_personAt 27 = .ok (.if_icmp .ge 62, 3) := by decide +kernel
theorem dX11_personAt_30 : decode cX11_personAt 30 = .ok (.iload_n 2, 1) := by decide +kernel
theorem dX11_personAt_31 : decode cX11_personAt 31 = .ok (.ifCond .ne 58, 3) := by decide +kernel
theorem dX11_personAt_34 : decode cX11_personAt 34 = .ok (.bipush 83, 2) := by decide +kernel
theorem dX11_personAt_36 : decode cX11_personAt 36 = .ok (.iconst 3, 1) := by decide +kernel
theorem dX11_personAt_37 : decode cX11_personAt 37 = .ok (.iload 5, 2) := by decide +kernel
theorem dX11_personAt_39 : decode cX11_personAt 39 = .ok (.imul, 1) := by decide +kernel
theorem dX11_personAt_40 : decode cX11_personAt 40 = .ok (.iadd, 1) := by decide +kernel
theorem dX11_personAt_41 : decode cX11_personAt 41 = .ok (.istore 6, 2) := by decide +kernel
theorem dX11_personAt_43 : decode cX11_personAt 43 = .ok (.aload_n 0, 1) := by decide +kernel
theorem dX11_personAt_44 : decode cX11_personAt 44 = .ok (.getfield 7, 3) := by decide +kernel
theorem dX11_personAt_47 : decode cX11_personAt 47 = .ok (.iload 6, 2) := by decide +kernel
theorem dX11_personAt_49 : decode cX11_personAt 49 = .ok (.iaload, 1) := by decide +kernel
theorem dX11_personAt_50 : decode cX11_personAt 50 = .ok (.iload_n 3, 1) := by decide +kernel
theorem dX11_personAt_51 : decode cX11_personAt 51 = .ok (.if_icmp .ne 28, 3) := by decide +kernel
theorem dX11_personAt_54 : decode cX11_personAt 54 = .ok (.aload_n 0, 1) := by decide +kernel
theorem dX11_personAt_55 : decode cX11_personAt 55 = .ok (.getfield 7, 3) := by decide +kernel
theorem dX11_personAt_58 : decode cX11_personAt 58 = .ok (.iload 6, 2) := by decide +kernel
theorem dX11_personAt_60 : decode cX11_personAt 60 = .ok (.iconst 2, 1) := by decide +kernel
theorem dX11_personAt_61 : decode cX11_personAt 61 = .ok (.iadd, 1) := by decide +kernel
theorem dX11_personAt_62 : decode cX11_personAt 62 = .ok (.iaload, 1) := by decide +kernel
theorem dX11_personAt_63 : decode cX11_personAt 63 = .ok (.iload_n 1, 1) := by decide +kernel
theorem dX11_personAt_64 : decode cX11_personAt 64 = .ok (.if_icmp .le 15, 3) := by decide +kernel
theorem dX11_personAt_67 : decode cX11_personAt 67 = .ok (.aload_n 0, 1) := by decide +kernel
theorem dX11_personAt_68 : decode cX11_personAt 68 = .ok (.getfield 7, 3) := by decide +kernel
theorem dX11_personAt_71 : decode cX11_personAt 71 = .ok (.iload 6, 2) := by decide +kernel
theorem dX11_personAt_73 : decode cX11_personAt 73 = .ok (.iconst 1, 1) := by decide +kernel
theorem dX11_personAt_74 : decode cX11_personAt 74 = .ok (.iadd, 1) := by decide +kernel
theorem dX11_personAt_75 : decode cX11_personAt 75 = .ok (.iaload, 1) := by decide +kernel
theorem dX11_personAt_76 : decode cX11_personAt 76 = .ok (.goto 5, 3) := by decide +kernel
theorem dX11_personAt_79 : decode cX11_personAt 79 = .ok (.iload 4, 2) := by decide +kernel
theorem dX11_personAt_81 : decode cX11_personAt 81 = .ok (.istore 4, 2) := by decide +kernel
theorem dX11_personAt_83 : decode cX11_personAt 83 = .ok (.iinc 5 1, 3) := by decide +kernel
theorem dX11_personAt_86 : decode cX11_personAt 86 = .ok (.goto (-68), 3) := by decide +kernel
theorem dX11_personAt_89 : decode cX11_personAt 89 = .ok (.iload_n 1, 1) := by decide +kernel
theorem dX11_personAt_90 : decode cX11_personAt 90 = .ok (.bipush 60, 2) := by decide +kernel
theorem dX11_personAt_92 : decode cX11_personAt 92 = .ok (.idiv, 1) := by decide +kernel
theorem dX11_personAt_93 : decode cX11_personAt 93 = .ok (.aload_n 0, 1) := by decide +kernel
theorem dX11_personAt_94 : decode cX11_personAt 94 = .ok (.iload_n 3, 1) := by decide +kernel
theorem dX11_personAt_95 : decode cX11_personAt 95 = .ok (.iconst 2, 1) := by decide +kernel
theorem dX11_personAt_96 : decode cX11_personAt 96 = .ok (.invokevirtual 40, 3) := by decide +kernel
theorem dX11_personAt_99 : decode cX11_personAt 99 = .ok (.idiv, 1) := by decide +kernel
theorem dX11_personAt_100 : decode cX11_personAt 100 = .ok (.iload_n 2, 1) := by decide +kernel
theorem dX11_personAt_101 : decode cX11_personAt 101 = .ok (.iadd, 1) := by decide +kernel
theorem dX11_personAt_102 : decode cX11_personAt 102 = .ok (.aload_n 0, 1) := by decide +kernel
theorem dX11_personAt_103 : decode cX11_personAt 103 = .ok (.iload_n 3, 1) := by decide +kernel
theorem dX11_personAt_104 : decode cX11_personAt 104 = .ok (.iconst 3, 1) := by decide +kernel
theorem dX11_personAt_105 : decode cX11_personAt 105 = .ok (.invokevirtual 40, 3) := by decide +kernel
theorem dX11_personAt_108 : decode cX11_personAt 108 = .ok (.irem, 1) := by decide +kernel
theorem dX11_personAt_109 : decode cX11_personAt 109 = .ok (.istore 5, 2) := by decide +kernel
theorem dX11_personAt_111 : decode cX11_personAt 111 = .ok (.iload 4, 2) := by decide +kernel
theorem dX11_personAt_113 : decode cX11_personAt 113 = .ok (.ifCond .lt 8, 3) := by decide +kernel
theorem dX11_personAt_116 : decode cX11_personAt 116 = .ok (.iload 4, 2) := by decide +kernel
theorem dX11_personAt_118 : decode cX11_personAt 118 = .ok (.goto 12, 3) := by decide +kernel
theorem dX11_personAt_121 : decode cX11_personAt 121 = .ok (.aload_n 0, 1) := by decide +kernel
theorem dX11_personAt_122 : decode cX11_personAt 122 = .ok (.iload_n 3, 1) := by decide +kernel
theorem dX11_personAt_123 : decode cX11_personAt 123 = .ok (.iconst 4, 1) := by decide +kernel
theorem dX11_personAt_124 : decode cX11_personAt 124 = .ok (.iload 5, 2) := by decide +kernel
theorem dX11_personAt_126 : decode cX11_personAt 126 = .ok (.iadd, 1) := by decide +kernel
theorem dX11_personAt_127 : decode cX11_personAt 127 = .ok (.invokevirtual 40, 3) := by decide +kernel
theorem dX11_personAt_130 : decode cX11_personAt 130 = .ok (.ireturn, 1) := by decide +kernel
theorem dX11_isQuiet_0 : decode cX11_isQuiet 0 = .ok (.iload_n 2, 1) := by decide +kernel
theorem dX11_isQuiet_1 : decode cX11_isQuiet 1 = .ok (.bipush 60, 2) := by decide +kernel
theorem dX11_isQuiet_3 : decode cX11_isQuiet 3 = .ok (.idiv, 1) := by decide +kernel
theorem dX11_isQuiet_4 : decode cX11_isQuiet 4 = .ok (.bipush 24, 2) := by decide +kernel
theorem dX11_isQuiet_6 : decode cX11_isQuiet 6 = .ok (.irem, 1) := by decide +kernel
theorem dX11_isQuiet_7 : decode cX11_isQuiet 7 = .ok (.aload_n 0, 1) := by decide +kernel
theorem dX11_isQuiet_8 : decode cX11_isQuiet 8 = .ok (.iload_n 1, 1) := by decide +kernel
theorem dX11_isQuiet_9 : decode cX11_isQuiet 9 = .ok (.iconst 0, 1) := by decide +kernel
theorem dX11_isQuiet_10 : decode cX11_isQuiet 10 = .ok (.invokevirtual 54, 3) := by decide +kernel
theorem dX11_isQuiet_13 : decode cX11_isQuiet 13 = .ok (.aload_n 0, 1) := by decide +kernel
theorem dX11_isQuiet_14 : decode cX11_isQuiet 14 = .ok (.iload_n 1, 1) := by decide +kernel
theorem dX11_isQuiet_15 : decode cX11_isQuiet 15 = .ok (.iconst 1, 1) := by decide +kernel
theorem dX11_isQuiet_16 : decode cX11_isQuiet 16 = .ok (.invokevirtual 54, 3) := by decide +kernel
theorem dX11_isQuiet_19 : decode cX11_isQuiet 19 = .ok (.invokestatic 44, 3) := by decide +kernel
theorem dX11_isQuiet_22 : decode cX11_isQuiet 22 = .ok (.ireturn, 1) := by decide +kernel
theorem dX11_isException_0 : decode cX11_isException 0 = .ok (.aload_n 0, 1) := by decide +kernel
theorem dX11_isException_1 : decode cX11_isException 1 = .ok (.iload_n 1, 1) := by decide +kernel
theorem dX11_isException_2 : decode cX11_isException 2 = .ok (.iconst 2, 1) := by decide +kernel
theorem dX11_isException_3 : decode cX11_isException 3 = .ok (.invokevirtual 54, 3) := by decide +kernel
theorem dX11_isException_6 : decode cX11_isException 6 = .ok (.iload_n 2, 1) := by decide +kernel
theorem dX11_isException_7 : decode cX11_isException 7 = .ok (.ishr, 1) := by decide +kernel
theorem dX11_isException_8 : decode cX11_isException 8 = .ok (.iconst 1, 1) := by decide +kernel
theorem dX11_isException_9 : decode cX11_isException 9 = .ok (.iand, 1) := by decide +kernel
theorem dX11_isException_10 : decode cX11_isException 10 = .ok (.iconst 1, 1) := by decide +kernel
theorem dX11_isException_11 : decode cX11_isException 11 = .ok (.if_icmp .ne 7, 3) := by decide +kernel
theorem dX11_isException_14 : decode cX11_isException 14 = .ok (.iconst 1, 1) := by decide +kernel
theorem dX11_isException_15 : decode cX11_isException 15 = .ok (.goto 4, 3) := by decide +kernel
theorem dX11_isException_18 : decode cX11_isException 18 = .ok (.iconst 0, 1) := by decide +kernel
theorem dX11_isException_19 : decode cX11_isException 19 = .ok (.ireturn, 1) := by decide +kernel
theorem dX11_pages_0 : decode cX11_pages 0 = .ok (.iload_n 1, 1) := by decide +kernel
theorem dX11_pages_1 : decode cX11_pages 1 = .ok (.invokestatic 36, 3) := by decide +kernel
theorem dX11_pages_4 : decode cX11_pages 4 = .ok (.istore_n 2, 1) := by decide +kernel
theorem dX11_pages_5 : decode cX11_pages 5 = .ok (.aload_n 0, 1) := by decide +kernel
theorem dX11_pages_6 : decode cX11_pages 6 = .ok (.aload_n 0, 1) := by decide +kernel
theorem dX11_pages_7 : decode cX11_pages 7 = .ok (.getfield 7, 3) := by decide +kernel
theorem dX11_pages_10 : decode cX11_pages 10 = .ok (.iconst 2, 1) := by decide +kernel
theorem dX11_pages_11 : decode cX11_pages 11 = .ok (.iaload, 1) := by decide +kernel
theorem dX11_pages_12 : decode cX11_pages 12 = .ok (.aload_n 0, 1) := by decide +kernel
theorem dX11_pages_13 : decode cX11_pages 13 = .ok (.getfield 7, 3) := by decide +kernel
theorem dX11_pages_16 : decode cX11_pages 16 = .ok (.iload_n 2, 1) := by decide +kernel
theorem dX11_pages_17 : decode cX11_pages 17 = .ok (.iconst 3, 1) := by decide +kernel
theorem dX11_pages_18 : decode cX11_pages 18 = .ok (.iadd, 1) := by decide +kernel
theorem dX11_pages_19 : decode cX11_pages 19 = .ok (.iaload, 1) := by decide +kernel
theorem dX11_pages_20 : decode cX11_pages 20 = .ok (.invokevirtual 57, 3) := by decide +kernel
theorem dX11_pages_23 : decode cX11_pages 23 = .ok (.istore_n 3, 1) := by decide +kernel
theorem dX11_pages_24 : decode cX11_pages 24 = .ok (.iload_n 3, 1) := by decide +kernel
theorem dX11_pages_25 : decode cX11_pages 25 = .ok (.ifCond .lt 44, 3) := by decide +kernel
theorem dX11_pages_28 : decode cX11_pages 28 = .ok (.aload_n 0, 1) := by decide +kernel
theorem dX11_pages_29 : decode cX11_pages 29 = .ok (.getfield 7, 3) := by decide +kernel
theorem dX11_pages_32 : decode cX11_pages 32 = .ok (.iload_n 2, 1) := by decide +kernel
theorem dX11_pages_33 : decode cX11_pages 33 = .ok (.iconst 2, 1) := by decide +kernel
theorem dX11_pages_34 : decode cX11_pages 34 = .ok (.iadd, 1) := by decide +kernel
theorem dX11_pages_35 : decode cX11_pages 35 = .ok (.iaload, 1) := by decide +kernel
theorem dX11_pages_36 : decode cX11_pages 36 = .ok (.ifCond .ne 37, 3) := by decide +kernel
theorem dX11_pages_39 : decode cX11_pages 39 = .ok (.aload_n 0, 1) := by decide +kernel
theorem dX11_pages_40 : decode cX11_pages 40 = .ok (.iload_n 3, 1) := by decide +kernel
theorem dX11_pages_41 : decode cX11_pages 41 = .ok (.aload_n 0, 1) := by decide +kernel
theorem dX11_pages_42 : decode cX11_pages 42 = .ok (.getfield 7, 3) := by decide +kernel
theorem dX11_pages_45 : decode cX11_pages 45 = .ok (.iconst 2, 1) := by decide +kernel
theorem dX11_pages_46 : decode cX11_pages 46 = .ok (.iaload, 1) := by decide +kernel
theorem dX11_pages_47 : decode cX11_pages 47 = .ok (.invokevirtual 60, 3) := by decide +kernel
theorem dX11_pages_50 : decode cX11_pages 50 = .ok (.ifCond .eq 23, 3) := by decide +kernel
theorem dX11_pages_53 : decode cX11_pages 53 = .ok (.aload_n 0, 1) := by decide +kernel
theorem dX11_pages_54 : decode cX11_pages 54 = .ok (.iload_n 3, 1) := by decide +kernel
theorem dX11_pages_55 : decode cX11_pages 55 = .ok (.aload_n 0, 1) := by decide +kernel
theorem dX11_pages_56 : decode cX11_pages 56 = .ok (.getfield 7, 3) := by decide +kernel
theorem dX11_pages_59 : decode cX11_pages 59 = .ok (.iload_n 2, 1) := by decide +kernel
theorem dX11_pages_60 : decode cX11_pages 60 = .ok (.iconst 1, 1) := by decide +kernel
theorem dX11_pages_61 : decode cX11_pages 61 = .ok (.iadd, 1) := by decide +kernel
theorem dX11_pages_62 : decode cX11_pages 62 = .ok (.iaload, 1) := by decide +kernel
theorem dX11_pages_63 : decode cX11_pages 63 = .ok (.invokevirtual 63, 3) := by decide +kernel
theorem dX11_pages_66 : decode cX11_pages 66 = .ok (.ifCond .ne 7, 3) := by decide +kernel
theorem dX11_pages_69 : decode cX11_pages 69 = .ok (.iconst 1, 1) := by decide +kernel
theorem dX11_pages_70 : decode cX11_pages 70 = .ok (.goto 4, 3) := by decide +kernel
theorem dX11_pages_73 : decode cX11_pages 73 = .ok (.iconst 0, 1) := by decide +kernel
theorem dX11_pages_74 : decode cX11_pages 74 = .ok (.istore 4, 2) := by decide +kernel
theorem dX11_pages_76 : decode cX11_pages 76 = .ok (.aload_n 0, 1) := by decide +kernel
theorem dX11_pages_77 : decode cX11_pages 77 = .ok (.getfield 7, 3) := by decide +kernel
theorem dX11_pages_80 : decode cX11_pages 80 = .ok (.iload_n 2, 1) := by decide +kernel
theorem dX11_pages_81 : decode cX11_pages 81 = .ok (.iconst 4, 1) := by decide +kernel
theorem dX11_pages_82 : decode cX11_pages 82 = .ok (.iadd, 1) := by decide +kernel
theorem dX11_pages_83 : decode cX11_pages 83 = .ok (.iload 4, 2) := by decide +kernel
theorem dX11_pages_85 : decode cX11_pages 85 = .ok (.ifCond .eq 7, 3) := by decide +kernel
theorem dX11_pages_88 : decode cX11_pages 88 = .ok (.iconst 0, 1) := by decide +kernel
theorem dX11_pages_89 : decode cX11_pages 89 = .ok (.goto 6, 3) := by decide +kernel
theorem dX11_pages_92 : decode cX11_pages 92 = .ok (.iload_n 3, 1) := by decide +kernel
theorem dX11_pages_93 : decode cX11_pages 93 = .ok (.iconst 1, 1) := by decide +kernel
theorem dX11_pages_94 : decode cX11_pages 94 = .ok (.iadd, 1) := by decide +kernel
theorem dX11_pages_95 : decode cX11_pages 95 = .ok (.iastore, 1) := by decide +kernel
theorem dX11_pages_96 : decode cX11_pages 96 = .ok (.aload_n 0, 1) := by decide +kernel
theorem dX11_pages_97 : decode cX11_pages 97 = .ok (.getfield 7, 3) := by decide +kernel
theorem dX11_pages_100 : decode cX11_pages 100 = .ok (.iload_n 2, 1) := by decide +kernel
theorem dX11_pages_101 : decode cX11_pages 101 = .ok (.iconst 5, 1) := by decide +kernel
theorem dX11_pages_102 : decode cX11_pages 102 = .ok (.iadd, 1) := by decide +kernel
theorem dX11_pages_103 : decode cX11_pages 103 = .ok (.iconst 0, 1) := by decide +kernel
theorem dX11_pages_104 : decode cX11_pages 104 = .ok (.iastore, 1) := by decide +kernel
theorem dX11_pages_105 : decode cX11_pages 105 = .ok (.aload_n 0, 1) := by decide +kernel
theorem dX11_pages_106 : decode cX11_pages 106 = .ok (.getfield 7, 3) := by decide +kernel
theorem dX11_pages_109 : decode cX11_pages 109 = .ok (.iload_n 2, 1) := by decide +kernel
theorem dX11_pages_110 : decode cX11_pages 110 = .ok (.bipush 11, 2) := by decide +kernel
theorem dX11_pages_112 : decode cX11_pages 112 = .ok (.iadd, 1) := by decide +kernel
theorem dX11_pages_113 : decode cX11_pages 113 = .ok (.aload_n 0, 1) := by decide +kernel
theorem dX11_pages_114 : decode cX11_pages 114 = .ok (.aload_n 0, 1) := by decide +kernel
theorem dX11_pages_115 : decode cX11_pages 115 = .ok (.getfield 7, 3) := by decide +kernel
theorem dX11_pages_118 : decode cX11_pages 118 = .ok (.iconst 2, 1) := by decide +kernel
theorem dX11_pages_119 : decode cX11_pages 119 = .ok (.iaload, 1) := by decide +kernel
theorem dX11_pages_120 : decode cX11_pages 120 = .ok (.invokevirtual 51, 3) := by decide +kernel
theorem dX11_pages_123 : decode cX11_pages 123 = .ok (.iastore, 1) := by decide +kernel
theorem dX11_pages_124 : decode cX11_pages 124 = .ok (.iload 4, 2) := by decide +kernel
theorem dX11_pages_126 : decode cX11_pages 126 = .ok (.ifCond .ne 55, 3) := by decide +kernel
theorem dX11_pages_129 : decode cX11_pages 129 = .ok (.aload_n 0, 1) := by decide +kernel
theorem dX11_pages_130 : decode cX11_pages 130 = .ok (.getfield 7, 3) := by decide +kernel
theorem dX11_pages_133 : decode cX11_pages 133 = .ok (.iload_n 2, 1) := by decide +kernel
theorem dX11_pages_134 : decode cX11_pages 134 = .ok (.bipush 10, 2) := by decide +kernel
theorem dX11_pages_136 : decode cX11_pages 136 = .ok (.iadd, 1) := by decide +kernel
theorem dX11_pages_137 : decode cX11_pages 137 = .ok (.aload_n 0, 1) := by decide +kernel
theorem dX11_pages_138 : decode cX11_pages 138 = .ok (.getfield 7, 3) := by decide +kernel
theorem dX11_pages_141 : decode cX11_pages 141 = .ok (.iconst 2, 1) := by decide +kernel
theorem dX11_pages_142 : decode cX11_pages 142 = .ok (.iaload, 1) := by decide +kernel
theorem dX11_pages_143 : decode cX11_pages 143 = .ok (.iastore, 1) := by decide +kernel
theorem dX11_pages_144 : decode cX11_pages 144 = .ok (.aload_n 0, 1) := by decide +kernel
theorem dX11_pages_145 : decode cX11_pages 145 = .ok (.getfield 7, 3) := by decide +kernel
theorem dX11_pages_148 : decode cX11_pages 148 = .ok (.iload_n 2, 1) := by decide +kernel
theorem dX11_pages_149 : decode cX11_pages 149 = .ok (.bipush 14, 2) := by decide +kernel
theorem dX11_pages_151 : decode cX11_pages 151 = .ok (.iadd, 1) := by decide +kernel
theorem dX11_pages_152 : decode cX11_pages 152 = .ok (.iconst 1, 1) := by decide +kernel
theorem dX11_pages_153 : decode cX11_pages 153 = .ok (.iastore, 1) := by decide +kernel
theorem dX11_pages_154 : decode cX11_pages 154 = .ok (.aload_n 0, 1) := by decide +kernel
theorem dX11_pages_155 : decode cX11_pages 155 = .ok (.getfield 7, 3) := by decide +kernel
theorem dX11_pages_158 : decode cX11_pages 158 = .ok (.iconst 5, 1) := by decide +kernel
theorem dX11_pages_159 : decode cX11_pages 159 = .ok (.dup2, 1) := by decide +kernel
theorem dX11_pages_160 : decode cX11_pages 160 = .ok (.iaload, 1) := by decide +kernel
theorem dX11_pages_161 : decode cX11_pages 161 = .ok (.iconst 1, 1) := by decide +kernel
theorem dX11_pages_162 : decode cX11_pages 162 = .ok (.iadd, 1) := by decide +kernel
theorem dX11_pages_163 : decode cX11_pages 163 = .ok (.iastore, 1) := by decide +kernel
theorem dX11_pages_164 : decode cX11_pages 164 = .ok (.aload_n 0, 1) := by decide +kernel
theorem dX11_pages_165 : decode cX11_pages 165 = .ok (.getfield 7, 3) := by decide +kernel
theorem dX11_pages_168 : decode cX11_pages 168 = .ok (.bipush 16, 2) := by decide +kernel
theorem dX11_pages_170 : decode cX11_pages 170 = .ok (.iconst 5, 1) := by decide +kernel
theorem dX11_pages_171 : decode cX11_pages 171 = .ok (.iload_n 3, 1) := by decide +kernel
theorem dX11_pages_172 : decode cX11_pages 172 = .ok (.imul, 1) := by decide +kernel
theorem dX11_pages_173 : decode cX11_pages 173 = .ok (.iadd, 1) := by decide +kernel
theorem dX11_pages_174 : decode cX11_pages 174 = .ok (.iconst 3, 1) := by decide +kernel
theorem dX11_pages_175 : decode cX11_pages 175 = .ok (.iadd, 1) := by decide +kernel
theorem dX11_pages_176 : decode cX11_pages 176 = .ok (.dup2, 1) := by decide +kernel
theorem dX11_pages_177 : decode cX11_pages 177 = .ok (.iaload, 1) := by decide +kernel
theorem dX11_pages_178 : decode cX11_pages 178 = .ok (.iconst 1, 1) := by decide +kernel
theorem dX11_pages_179 : decode cX11_pages 179 = .ok (.iadd, 1) := by decide +kernel
theorem dX11_pages_180 : decode cX11_pages 180 = .ok (.iastore, 1) := by decide +kernel
theorem dX11_pages_181 : decode cX11_pages 181 = .ok (.return_, 1) := by decide +kernel
theorem dX11_minuteOf_0 : decode cX11_minuteOf 0 = .ok (.iload_n 1, 1) := by decide +kernel
theorem dX11_minuteOf_1 : decode cX11_minuteOf 1 = .ok (.invokestatic 36, 3) := by decide +kernel
theorem dX11_minuteOf_4 : decode cX11_minuteOf 4 = .ok (.istore_n 2, 1) := by decide +kernel
theorem dX11_minuteOf_5 : decode cX11_minuteOf 5 = .ok (.aload_n 0, 1) := by decide +kernel
theorem dX11_minuteOf_6 : decode cX11_minuteOf 6 = .ok (.getfield 7, 3) := by decide +kernel
theorem dX11_minuteOf_9 : decode cX11_minuteOf 9 = .ok (.iload_n 2, 1) := by decide +kernel
theorem dX11_minuteOf_10 : decode cX11_minuteOf 10 = .ok (.iconst 4, 1) := by decide +kernel
theorem dX11_minuteOf_11 : decode cX11_minuteOf 11 = .ok (.iadd, 1) := by decide +kernel
theorem dX11_minuteOf_12 : decode cX11_minuteOf 12 = .ok (.iaload, 1) := by decide +kernel
theorem dX11_minuteOf_13 : decode cX11_minuteOf 13 = .ok (.ifCond .le 7, 3) := by decide +kernel
theorem dX11_minuteOf_16 : decode cX11_minuteOf 16 = .ok (.iconst 1, 1) := by decide +kernel
theorem dX11_minuteOf_17 : decode cX11_minuteOf 17 = .ok (.goto 4, 3) := by decide +kernel
theorem dX11_minuteOf_20 : decode cX11_minuteOf 20 = .ok (.iconst 0, 1) := by decide +kernel
theorem dX11_minuteOf_21 : decode cX11_minuteOf 21 = .ok (.istore_n 3, 1) := by decide +kernel
theorem dX11_minuteOf_22 : decode cX11_minuteOf 22 = .ok (.aload_n 0, 1) := by decide +kernel
theorem dX11_minuteOf_23 : decode cX11_minuteOf 23 = .ok (.aload_n 0, 1) := by decide +kernel
theorem dX11_minuteOf_24 : decode cX11_minuteOf 24 = .ok (.getfield 7, 3) := by decide +kernel
theorem dX11_minuteOf_27 : decode cX11_minuteOf 27 = .ok (.iconst 2, 1) := by decide +kernel
theorem dX11_minuteOf_28 : decode cX11_minuteOf 28 = .ok (.iaload, 1) := by decide +kernel
theorem dX11_minuteOf_29 : decode cX11_minuteOf 29 = .ok (.invokevirtual 51, 3) := by decide +kernel
theorem dX11_minuteOf_32 : decode cX11_minuteOf 32 = .ok (.istore 4, 2) := by decide +kernel
theorem dX11_minuteOf_34 : decode cX11_minuteOf 34 = .ok (.aload_n 0, 1) := by decide +kernel
theorem dX11_minuteOf_35 : decode cX11_minuteOf 35 = .ok (.getfield 7, 3) := by decide +kernel
theorem dX11_minuteOf_38 : decode cX11_minuteOf 38 = .ok (.iload_n 2, 1) := by decide +kernel
theorem dX11_minuteOf_39 : decode cX11_minuteOf 39 = .ok (.bipush 9, 2) := by decide +kernel
theorem dX11_minuteOf_41 : decode cX11_minuteOf 41 = .ok (.iadd, 1) := by decide +kernel
theorem dX11_minuteOf_42 : decode cX11_minuteOf 42 = .ok (.dup2, 1) := by decide +kernel
theorem dX11_minuteOf_43 : decode cX11_minuteOf 43 = .ok (.iaload, 1) := by decide +kernel
theorem dX11_minuteOf_44 : decode cX11_minuteOf 44 = .ok (.iload_n 3, 1) := by decide +kernel
theorem dX11_minuteOf_45 : decode cX11_minuteOf 45 = .ok (.ifCond .eq 7, 3) := by decide +kernel
theorem dX11_minuteOf_48 : decode cX11_minuteOf 48 = .ok (.iconst 0, 1) := by decide +kernel
theorem dX11_minuteOf_49 : decode cX11_minuteOf 49 = .ok (.goto 4, 3) := by decide +kernel
theorem dX11_minuteOf_52 : decode cX11_minuteOf 52 = .ok (.iconst 1, 1) := by decide +kernel
theorem dX11_minuteOf_53 : decode cX11_minuteOf 53 = .ok (.iadd, 1) := by decide +kernel
theorem dX11_minuteOf_54 : decode cX11_minuteOf 54 = .ok (.iastore, 1) := by decide +kernel
theorem dX11_minuteOf_55 : decode cX11_minuteOf 55 = .ok (.aload_n 0, 1) := by decide +kernel
theorem dX11_minuteOf_56 : decode cX11_minuteOf 56 = .ok (.getfield 7, 3) := by decide +kernel
theorem dX11_minuteOf_59 : decode cX11_minuteOf 59 = .ok (.bipush 9, 2) := by decide +kernel
theorem dX11_minuteOf_61 : decode cX11_minuteOf 61 = .ok (.dup2, 1) := by decide +kernel
theorem dX11_minuteOf_62 : decode cX11_minuteOf 62 = .ok (.iaload, 1) := by decide +kernel
theorem dX11_minuteOf_63 : decode cX11_minuteOf 63 = .ok (.iload_n 3, 1) := by decide +kernel
theorem dX11_minuteOf_64 : decode cX11_minuteOf 64 = .ok (.ifCond .eq 7, 3) := by decide +kernel
theorem dX11_minuteOf_67 : decode cX11_minuteOf 67 = .ok (.iconst 0, 1) := by decide +kernel
theorem dX11_minuteOf_68 : decode cX11_minuteOf 68 = .ok (.goto 4, 3) := by decide +kernel
theorem dX11_minuteOf_71 : decode cX11_minuteOf 71 = .ok (.iconst 1, 1) := by decide +kernel
theorem dX11_minuteOf_72 : decode cX11_minuteOf 72 = .ok (.iadd, 1) := by decide +kernel
theorem dX11_minuteOf_73 : decode cX11_minuteOf 73 = .ok (.iastore, 1) := by decide +kernel
theorem dX11_minuteOf_74 : decode cX11_minuteOf 74 = .ok (.iload_n 3, 1) := by decide +kernel
theorem dX11_minuteOf_75 : decode cX11_minuteOf 75 = .ok (.ifCond .eq 63, 3) := by decide +kernel
theorem dX11_minuteOf_78 : decode cX11_minuteOf 78 = .ok (.iload 4, 2) := by decide +kernel
theorem dX11_minuteOf_80 : decode cX11_minuteOf 80 = .ok (.ifCond .lt 17, 3) := by decide +kernel
theorem dX11_minuteOf_83 : decode cX11_minuteOf 83 = .ok (.iload 4, 2) := by decide +kernel
theorem dX11_minuteOf_85 : decode cX11_minuteOf 85 = .ok (.aload_n 0, 1) := by decide +kernel
theorem dX11_minuteOf_86 : decode cX11_minuteOf 86 = .ok (.getfield 7, 3) := by decide +kernel
theorem dX11_minuteOf_89 : decode cX11_minuteOf 89 = .ok (.iload_n 2, 1) := by decide +kernel
theorem dX11_minuteOf_90 : decode cX11_minuteOf 90 = .ok (.bipush 11, 2) := by decide +kernel
theorem dX11_minuteOf_92 : decode cX11_minuteOf 92 = .ok (.iadd, 1) := by decide +kernel
theorem dX11_minuteOf_93 : decode cX11_minuteOf 93 = .ok (.iaload, 1) := by decide +kernel
theorem dX11_minuteOf_94 : decode cX11_minuteOf 94 = .ok (.if_icmp .eq 44, 3) := by decide +kernel
theorem dX11_minuteOf_97 : decode cX11_minuteOf 97 = .ok (.aload_n 0, 1) := by decide +kernel
theorem dX11_minuteOf_98 : decode cX11_minuteOf 98 = .ok (.getfield 7, 3) := by decide +kernel
theorem dX11_minuteOf_101 : decode cX11_minuteOf 101 = .ok (.iload_n 2, 1) := by decide +kernel
theorem dX11_minuteOf_102 : decode cX11_minuteOf 102 = .ok (.iconst 3, 1) := by decide +kernel
theorem dX11_minuteOf_103 : decode cX11_minuteOf 103 = .ok (.iadd, 1) := by decide +kernel
theorem dX11_minuteOf_104 : decode cX11_minuteOf 104 = .ok (.iconst 0, 1) := by decide +kernel
theorem dX11_minuteOf_105 : decode cX11_minuteOf 105 = .ok (.iastore, 1) := by decide +kernel
theorem dX11_minuteOf_106 : decode cX11_minuteOf 106 = .ok (.aload_n 0, 1) := by decide +kernel
theorem dX11_minuteOf_107 : decode cX11_minuteOf 107 = .ok (.getfield 7, 3) := by decide +kernel
theorem dX11_minuteOf_110 : decode cX11_minuteOf 110 = .ok (.iload_n 2, 1) := by decide +kernel
theorem dX11_minuteOf_111 : decode cX11_minuteOf 111 = .ok (.bipush 12, 2) := by decide +kernel
theorem dX11_minuteOf_113 : decode cX11_minuteOf 113 = .ok (.iadd, 1) := by decide +kernel
theorem dX11_minuteOf_114 : decode cX11_minuteOf 114 = .ok (.dup2, 1) := by decide +kernel
theorem dX11_minuteOf_115 : decode cX11_minuteOf 115 = .ok (.iaload, 1) := by decide +kernel
theorem dX11_minuteOf_116 : decode cX11_minuteOf 116 = .ok (.iconst 1, 1) := by decide +kernel
theorem dX11_minuteOf_117 : decode cX11_minuteOf 117 = .ok (.iadd, 1) := by decide +kernel
theorem dX11_minuteOf_118 : decode cX11_minuteOf 118 = .ok (.iastore, 1) := by decide +kernel
theorem dX11_minuteOf_119 : decode cX11_minuteOf 119 = .ok (.aload_n 0, 1) := by decide +kernel
theorem dX11_minuteOf_120 : decode cX11_minuteOf 120 = .ok (.getfield 7, 3) := by decide +kernel
theorem dX11_minuteOf_123 : decode cX11_minuteOf 123 = .ok (.bipush 7, 2) := by decide +kernel
theorem dX11_minuteOf_125 : decode cX11_minuteOf 125 = .ok (.dup2, 1) := by decide +kernel
theorem dX11_minuteOf_126 : decode cX11_minuteOf 126 = .ok (.iaload, 1) := by decide +kernel
theorem dX11_minuteOf_127 : decode cX11_minuteOf 127 = .ok (.iconst 1, 1) := by decide +kernel
theorem dX11_minuteOf_128 : decode cX11_minuteOf 128 = .ok (.iadd, 1) := by decide +kernel
theorem dX11_minuteOf_129 : decode cX11_minuteOf 129 = .ok (.iastore, 1) := by decide +kernel
theorem dX11_minuteOf_130 : decode cX11_minuteOf 130 = .ok (.aload_n 0, 1) := by decide +kernel
theorem dX11_minuteOf_131 : decode cX11_minuteOf 131 = .ok (.iload_n 1, 1) := by decide +kernel
theorem dX11_minuteOf_132 : decode cX11_minuteOf 132 = .ok (.invokevirtual 66, 3) := by decide +kernel
theorem dX11_minuteOf_135 : decode cX11_minuteOf 135 = .ok (.goto 93, 3) := by decide +kernel
theorem dX11_minuteOf_138 : decode cX11_minuteOf 138 = .ok (.iload_n 3, 1) := by decide +kernel
theorem dX11_minuteOf_139 : decode cX11_minuteOf 139 = .ok (.ifCond .ne 11, 3) := by decide +kernel
theorem dX11_minuteOf_142 : decode cX11_minuteOf 142 = .ok (.aload_n 0, 1) := by decide +kernel
theorem dX11_minuteOf_143 : decode cX11_minuteOf 143 = .ok (.iload_n 1, 1) := by decide +kernel
theorem dX11_minuteOf_144 : decode cX11_minuteOf 144 = .ok (.invokevirtual 66, 3) := by decide +kernel
theorem dX11_minuteOf_147 : decode cX11_minuteOf 147 = .ok (.goto 81, 3) := by decide +kernel
theorem dX11_minuteOf_150 : decode cX11_minuteOf 150 = .ok (.aload_n 0, 1) := by decide +kernel
theorem dX11_minuteOf_151 : decode cX11_minuteOf 151 = .ok (.getfield 7, 3) := by decide +kernel
theorem dX11_minuteOf_154 : decode cX11_minuteOf 154 = .ok (.iload_n 2, 1) := by decide +kernel
theorem dX11_minuteOf_155 : decode cX11_minuteOf 155 = .ok (.iconst 5, 1) := by decide +kernel
theorem dX11_minuteOf_156 : decode cX11_minuteOf 156 = .ok (.iadd, 1) := by decide +kernel
theorem dX11_minuteOf_157 : decode cX11_minuteOf 157 = .ok (.iaload, 1) := by decide +kernel
theorem dX11_minuteOf_158 : decode cX11_minuteOf 158 = .ok (.ifCond .ne 70, 3) := by decide +kernel
theorem dX11_minuteOf_161 : decode cX11_minuteOf 161 = .ok (.aload_n 0, 1) := by decide +kernel
theorem dX11_minuteOf_162 : decode cX11_minuteOf 162 = .ok (.getfield 7, 3) := by decide +kernel
theorem dX11_minuteOf_165 : decode cX11_minuteOf 165 = .ok (.iconst 2, 1) := by decide +kernel
theorem dX11_minuteOf_166 : decode cX11_minuteOf 166 = .ok (.iaload, 1) := by decide +kernel
theorem dX11_minuteOf_167 : decode cX11_minuteOf 167 = .ok (.aload_n 0, 1) := by decide +kernel
theorem dX11_minuteOf_168 : decode cX11_minuteOf 168 = .ok (.getfield 7, 3) := by decide +kernel
theorem dX11_minuteOf_171 : decode cX11_minuteOf 171 = .ok (.iload_n 2, 1) := by decide +kernel
theorem dX11_minuteOf_172 : decode cX11_minuteOf 172 = .ok (.bipush 10, 2) := by decide +kernel
theorem dX11_minuteOf_174 : decode cX11_minuteOf 174 = .ok (.iadd, 1) := by decide +kernel
theorem dX11_minuteOf_175 : decode cX11_minuteOf 175 = .ok (.iaload, 1) := by decide +kernel
theorem dX11_minuteOf_176 : decode cX11_minuteOf 176 = .ok (.isub, 1) := by decide +kernel
theorem dX11_minuteOf_177 : decode cX11_minuteOf 177 = .ok (.aload_n 0, 1) := by decide +kernel
theorem dX11_minuteOf_178 : decode cX11_minuteOf 178 = .ok (.getfield 7, 3) := by decide +kernel
theorem dX11_minuteOf_181 : decode cX11_minuteOf 181 = .ok (.bipush 13, 2) := by decide +kernel
theorem dX11_minuteOf_183 : decode cX11_minuteOf 183 = .ok (.iaload, 1) := by decide +kernel
theorem dX11_minuteOf_184 : decode cX11_minuteOf 184 = .ok (.if_icmp .lt 44, 3) := by decide +kernel
theorem dX11_minuteOf_187 : decode cX11_minuteOf 187 = .ok (.aload_n 0, 1) := by decide +kernel
theorem dX11_minuteOf_188 : decode cX11_minuteOf 188 = .ok (.getfield 7, 3) := by decide +kernel
theorem dX11_minuteOf_191 : decode cX11_minuteOf 191 = .ok (.iload_n 2, 1) := by decide +kernel
theorem dX11_minuteOf_192 : decode cX11_minuteOf 192 = .ok (.iconst 3, 1) := by decide +kernel
theorem dX11_minuteOf_193 : decode cX11_minuteOf 193 = .ok (.iadd, 1) := by decide +kernel
theorem dX11_minuteOf_194 : decode cX11_minuteOf 194 = .ok (.dup2, 1) := by decide +kernel
theorem dX11_minuteOf_195 : decode cX11_minuteOf 195 = .ok (.iaload, 1) := by decide +kernel
theorem dX11_minuteOf_196 : decode cX11_minuteOf 196 = .ok (.iconst 1, 1) := by decide +kernel
theorem dX11_minuteOf_197 : decode cX11_minuteOf 197 = .ok (.iadd, 1) := by decide +kernel
theorem dX11_minuteOf_198 : decode cX11_minuteOf 198 = .ok (.iastore, 1) := by decide +kernel
theorem dX11_minuteOf_199 : decode cX11_minuteOf 199 = .ok (.aload_n 0, 1) := by decide +kernel
theorem dX11_minuteOf_200 : decode cX11_minuteOf 200 = .ok (.getfield 7, 3) := by decide +kernel
theorem dX11_minuteOf_203 : decode cX11_minuteOf 203 = .ok (.iload_n 2, 1) := by decide +kernel
theorem dX11_minuteOf_204 : decode cX11_minuteOf 204 = .ok (.bipush 13, 2) := by decide +kernel
theorem dX11_minuteOf_206 : decode cX11_minuteOf 206 = .ok (.iadd, 1) := by decide +kernel
theorem dX11_minuteOf_207 : decode cX11_minuteOf 207 = .ok (.dup2, 1) := by decide +kernel
theorem dX11_minuteOf_208 : decode cX11_minuteOf 208 = .ok (.iaload, 1) := by decide +kernel
theorem dX11_minuteOf_209 : decode cX11_minuteOf 209 = .ok (.iconst 1, 1) := by decide +kernel
theorem dX11_minuteOf_210 : decode cX11_minuteOf 210 = .ok (.iadd, 1) := by decide +kernel
theorem dX11_minuteOf_211 : decode cX11_minuteOf 211 = .ok (.iastore, 1) := by decide +kernel
theorem dX11_minuteOf_212 : decode cX11_minuteOf 212 = .ok (.aload_n 0, 1) := by decide +kernel
theorem dX11_minuteOf_213 : decode cX11_minuteOf 213 = .ok (.getfield 7, 3) := by decide +kernel
theorem dX11_minuteOf_216 : decode cX11_minuteOf 216 = .ok (.bipush 8, 2) := by decide +kernel
theorem dX11_minuteOf_218 : decode cX11_minuteOf 218 = .ok (.dup2, 1) := by decide +kernel
theorem dX11_minuteOf_219 : decode cX11_minuteOf 219 = .ok (.iaload, 1) := by decide +kernel
theorem dX11_minuteOf_220 : decode cX11_minuteOf 220 = .ok (.iconst 1, 1) := by decide +kernel
theorem dX11_minuteOf_221 : decode cX11_minuteOf 221 = .ok (.iadd, 1) := by decide +kernel
theorem dX11_minuteOf_222 : decode cX11_minuteOf 222 = .ok (.iastore, 1) := by decide +kernel
theorem dX11_minuteOf_223 : decode cX11_minuteOf 223 = .ok (.aload_n 0, 1) := by decide +kernel
theorem dX11_minuteOf_224 : decode cX11_minuteOf 224 = .ok (.iload_n 1, 1) := by decide +kernel
theorem dX11_minuteOf_225 : decode cX11_minuteOf 225 = .ok (.invokevirtual 66, 3) := by decide +kernel
theorem dX11_minuteOf_228 : decode cX11_minuteOf 228 = .ok (.return_, 1) := by decide +kernel
theorem dX11_minute_0 : decode cX11_minute 0 = .ok (.aload_n 0, 1) := by decide +kernel
theorem dX11_minute_1 : decode cX11_minute 1 = .ok (.getfield 7, 3) := by decide +kernel
theorem dX11_minute_4 : decode cX11_minute 4 = .ok (.iconst 2, 1) := by decide +kernel
theorem dX11_minute_5 : decode cX11_minute 5 = .ok (.dup2, 1) := by decide +kernel
theorem dX11_minute_6 : decode cX11_minute 6 = .ok (.iaload, 1) := by decide +kernel
theorem dX11_minute_7 : decode cX11_minute 7 = .ok (.iconst 1, 1) := by decide +kernel
theorem dX11_minute_8 : decode cX11_minute 8 = .ok (.iadd, 1) := by decide +kernel
theorem dX11_minute_9 : decode cX11_minute 9 = .ok (.iastore, 1) := by decide +kernel
theorem dX11_minute_10 : decode cX11_minute 10 = .ok (.iconst 0, 1) := by decide +kernel
theorem dX11_minute_11 : decode cX11_minute 11 = .ok (.istore_n 1, 1) := by decide +kernel
theorem dX11_minute_12 : decode cX11_minute 12 = .ok (.iload_n 1, 1) := by decide +kernel
theorem dX11_minute_13 : decode cX11_minute 13 = .ok (.bipush 8, 2) := by decide +kernel
theorem dX11_minute_15 : decode cX11_minute 15 = .ok (.if_icmp .ge 22, 3) := by decide +kernel
theorem dX11_minute_18 : decode cX11_minute 18 = .ok (.aload_n 0, 1) := by decide +kernel
theorem dX11_minute_19 : decode cX11_minute 19 = .ok (.iload_n 1, 1) := by decide +kernel
theorem dX11_minute_20 : decode cX11_minute 20 = .ok (.invokevirtual 70, 3) := by decide +kernel
theorem dX11_minute_23 : decode cX11_minute 23 = .ok (.ifCond .eq 8, 3) := by decide +kernel
theorem dX11_minute_26 : decode cX11_minute 26 = .ok (.aload_n 0, 1) := by decide +kernel
theorem dX11_minute_27 : decode cX11_minute 27 = .ok (.iload_n 1, 1) := by decide +kernel
theorem dX11_minute_28 : decode cX11_minute 28 = .ok (.invokevirtual 74, 3) := by decide +kernel
theorem dX11_minute_31 : decode cX11_minute 31 = .ok (.iinc 1 1, 3) := by decide +kernel
theorem dX11_minute_34 : decode cX11_minute 34 = .ok (.goto (-22), 3) := by decide +kernel
theorem dX11_minute_37 : decode cX11_minute 37 = .ok (.return_, 1) := by decide +kernel
theorem dX11_comes_0 : decode cX11_comes 0 = .ok (.aload_n 0, 1) := by decide +kernel
theorem dX11_comes_1 : decode cX11_comes 1 = .ok (.getfield 7, 3) := by decide +kernel
theorem dX11_comes_4 : decode cX11_comes 4 = .ok (.iconst 0, 1) := by decide +kernel
theorem dX11_comes_5 : decode cX11_comes 5 = .ok (.iaload, 1) := by decide +kernel
theorem dX11_comes_6 : decode cX11_comes 6 = .ok (.bipush 8, 2) := by decide +kernel
theorem dX11_comes_8 : decode cX11_comes 8 = .ok (.if_icmp .ne 6, 3) := by decide +kernel
theorem dX11_comes_11 : decode cX11_comes 11 = .ok (.bipush (-3), 2) := by decide +kernel
theorem dX11_comes_13 : decode cX11_comes 13 = .ok (.ireturn, 1) := by decide +kernel
theorem dX11_comes_14 : decode cX11_comes 14 = .ok (.aload_n 0, 1) := by decide +kernel
theorem dX11_comes_15 : decode cX11_comes 15 = .ok (.getfield 7, 3) := by decide +kernel
theorem dX11_comes_18 : decode cX11_comes 18 = .ok (.iconst 0, 1) := by decide +kernel
theorem dX11_comes_19 : decode cX11_comes 19 = .ok (.dup2, 1) := by decide +kernel
theorem dX11_comes_20 : decode cX11_comes 20 = .ok (.iaload, 1) := by decide +kernel
theorem dX11_comes_21 : decode cX11_comes 21 = .ok (.iconst 1, 1) := by decide +kernel
theorem dX11_comes_22 : decode cX11_comes 22 = .ok (.iadd, 1) := by decide +kernel
theorem dX11_comes_23 : decode cX11_comes 23 = .ok (.iastore, 1) := by decide +kernel
theorem dX11_comes_24 : decode cX11_comes 24 = .ok (.aload_n 0, 1) := by decide +kernel
theorem dX11_comes_25 : decode cX11_comes 25 = .ok (.getfield 7, 3) := by decide +kernel
theorem dX11_comes_28 : decode cX11_comes 28 = .ok (.iconst 0, 1) := by decide +kernel
theorem dX11_comes_29 : decode cX11_comes 29 = .ok (.iaload, 1) := by decide +kernel
theorem dX11_comes_30 : decode cX11_comes 30 = .ok (.iconst 1, 1) := by decide +kernel
theorem dX11_comes_31 : decode cX11_comes 31 = .ok (.isub, 1) := by decide +kernel
theorem dX11_comes_32 : decode cX11_comes 32 = .ok (.ireturn, 1) := by decide +kernel
theorem dX11_lies_0 : decode cX11_lies 0 = .ok (.iload_n 1, 1) := by decide +kernel
theorem dX11_lies_1 : decode cX11_lies 1 = .ok (.iconst 0, 1) := by decide +kernel
theorem dX11_lies_2 : decode cX11_lies 2 = .ok (.bipush 23, 2) := by decide +kernel
theorem dX11_lies_4 : decode cX11_lies 4 = .ok (.invokestatic 32, 3) := by decide +kernel
theorem dX11_lies_7 : decode cX11_lies 7 = .ok (.ifCond .eq 28, 3) := by decide +kernel
theorem dX11_lies_10 : decode cX11_lies 10 = .ok (.iload_n 2, 1) := by decide +kernel
theorem dX11_lies_11 : decode cX11_lies 11 = .ok (.iconst 0, 1) := by decide +kernel
theorem dX11_lies_12 : decode cX11_lies 12 = .ok (.bipush 23, 2) := by decide +kernel
theorem dX11_lies_14 : decode cX11_lies 14 = .ok (.invokestatic 32, 3) := by decide +kernel
theorem dX11_lies_17 : decode cX11_lies 17 = .ok (.ifCond .eq 18, 3) := by decide +kernel
theorem dX11_lies_20 : decode cX11_lies 20 = .ok (.iload_n 1, 1) := by decide +kernel
theorem dX11_lies_21 : decode cX11_lies 21 = .ok (.iload_n 2, 1) := by decide +kernel
theorem dX11_lies_22 : decode cX11_lies 22 = .ok (.if_icmp .eq 13, 3) := by decide +kernel
theorem dX11_lies_25 : decode cX11_lies 25 = .ok (.iload_n 3, 1) := by decide +kernel
theorem dX11_lies_26 : decode cX11_lies 26 = .ok (.iconst 1, 1) := by decide +kernel
theorem dX11_lies_27 : decode cX11_lies 27 = .ok (.bipush 24, 2) := by decide +kernel
theorem dX11_lies_29 : decode cX11_lies 29 = .ok (.invokestatic 32, 3) := by decide +kernel
theorem dX11_lies_32 : decode cX11_lies 32 = .ok (.ifCond .ne 5, 3) := by decide +kernel
theorem dX11_lies_35 : decode cX11_lies 35 = .ok (.iconst (-1), 1) := by decide +kernel
theorem dX11_lies_36 : decode cX11_lies 36 = .ok (.ireturn, 1) := by decide +kernel
theorem dX11_lies_37 : decode cX11_lies 37 = .ok (.aload_n 0, 1) := by decide +kernel
theorem dX11_lies_38 : decode cX11_lies 38 = .ok (.getfield 7, 3) := by decide +kernel
theorem dX11_lies_41 : decode cX11_lies 41 = .ok (.iconst 1, 1) := by decide +kernel
theorem dX11_lies_42 : decode cX11_lies 42 = .ok (.iaload, 1) := by decide +kernel
theorem dX11_lies_43 : decode cX11_lies 43 = .ok (.iconst 3, 1) := by decide +kernel
theorem dX11_lies_44 : decode cX11_lies 44 = .ok (.if_icmp .ne 6, 3) := by decide +kernel
theorem dX11_lies_47 : decode cX11_lies 47 = .ok (.bipush (-3), 2) := by decide +kernel
theorem dX11_lies_49 : decode cX11_lies 49 = .ok (.ireturn, 1) := by decide +kernel
theorem dX11_lies_50 : decode cX11_lies 50 = .ok (.bipush 56, 2) := by decide +kernel
theorem dX11_lies_52 : decode cX11_lies 52 = .ok (.bipush 9, 2) := by decide +kernel
theorem dX11_lies_54 : decode cX11_lies 54 = .ok (.aload_n 0, 1) := by decide +kernel
theorem dX11_lies_55 : decode cX11_lies 55 = .ok (.getfield 7, 3) := by decide +kernel
theorem dX11_lies_58 : decode cX11_lies 58 = .ok (.iconst 1, 1) := by decide +kernel
theorem dX11_lies_59 : decode cX11_lies 59 = .ok (.iaload, 1) := by decide +kernel
theorem dX11_lies_60 : decode cX11_lies 60 = .ok (.imul, 1) := by decide +kernel
theorem dX11_lies_61 : decode cX11_lies 61 = .ok (.iadd, 1) := by decide +kernel
theorem dX11_lies_62 : decode cX11_lies 62 = .ok (.istore 4, 2) := by decide +kernel
theorem dX11_lies_64 : decode cX11_lies 64 = .ok (.aload_n 0, 1) := by decide +kernel
theorem dX11_lies_65 : decode cX11_lies 65 = .ok (.getfield 7, 3) := by decide +kernel
theorem dX11_lies_68 : decode cX11_lies 68 = .ok (.iload 4, 2) := by decide +kernel
theorem dX11_lies_70 : decode cX11_lies 70 = .ok (.iconst 0, 1) := by decide +kernel
theorem dX11_lies_71 : decode cX11_lies 71 = .ok (.iadd, 1) := by decide +kernel
theorem dX11_lies_72 : decode cX11_lies 72 = .ok (.iload_n 1, 1) := by decide +kernel
theorem dX11_lies_73 : decode cX11_lies 73 = .ok (.iastore, 1) := by decide +kernel
theorem dX11_lies_74 : decode cX11_lies 74 = .ok (.aload_n 0, 1) := by decide +kernel
theorem dX11_lies_75 : decode cX11_lies 75 = .ok (.getfield 7, 3) := by decide +kernel
theorem dX11_lies_78 : decode cX11_lies 78 = .ok (.iload 4, 2) := by decide +kernel
theorem dX11_lies_80 : decode cX11_lies 80 = .ok (.iconst 1, 1) := by decide +kernel
theorem dX11_lies_81 : decode cX11_lies 81 = .ok (.iadd, 1) := by decide +kernel
theorem dX11_lies_82 : decode cX11_lies 82 = .ok (.iload_n 2, 1) := by decide +kernel
theorem dX11_lies_83 : decode cX11_lies 83 = .ok (.iastore, 1) := by decide +kernel
theorem dX11_lies_84 : decode cX11_lies 84 = .ok (.aload_n 0, 1) := by decide +kernel
theorem dX11_lies_85 : decode cX11_lies 85 = .ok (.getfield 7, 3) := by decide +kernel
theorem dX11_lies_88 : decode cX11_lies 88 = .ok (.iload 4, 2) := by decide +kernel
theorem dX11_lies_90 : decode cX11_lies 90 = .ok (.iconst 2, 1) := by decide +kernel
theorem dX11_lies_91 : decode cX11_lies 91 = .ok (.iadd, 1) := by decide +kernel
theorem dX11_lies_92 : decode cX11_lies 92 = .ok (.iload_n 3, 1) := by decide +kernel
theorem dX11_lies_93 : decode cX11_lies 93 = .ok (.iastore, 1) := by decide +kernel
theorem dX11_lies_94 : decode cX11_lies 94 = .ok (.aload_n 0, 1) := by decide +kernel
theorem dX11_lies_95 : decode cX11_lies 95 = .ok (.getfield 7, 3) := by decide +kernel
theorem dX11_lies_98 : decode cX11_lies 98 = .ok (.iconst 1, 1) := by decide +kernel
theorem dX11_lies_99 : decode cX11_lies 99 = .ok (.dup2, 1) := by decide +kernel
theorem dX11_lies_100 : decode cX11_lies 100 = .ok (.iaload, 1) := by decide +kernel
theorem dX11_lies_101 : decode cX11_lies 101 = .ok (.iconst 1, 1) := by decide +kernel
theorem dX11_lies_102 : decode cX11_lies 102 = .ok (.iadd, 1) := by decide +kernel
theorem dX11_lies_103 : decode cX11_lies 103 = .ok (.iastore, 1) := by decide +kernel
theorem dX11_lies_104 : decode cX11_lies 104 = .ok (.aload_n 0, 1) := by decide +kernel
theorem dX11_lies_105 : decode cX11_lies 105 = .ok (.getfield 7, 3) := by decide +kernel
theorem dX11_lies_108 : decode cX11_lies 108 = .ok (.iconst 1, 1) := by decide +kernel
theorem dX11_lies_109 : decode cX11_lies 109 = .ok (.iaload, 1) := by decide +kernel
theorem dX11_lies_110 : decode cX11_lies 110 = .ok (.iconst 1, 1) := by decide +kernel
theorem dX11_lies_111 : decode cX11_lies 111 = .ok (.isub, 1) := by decide +kernel
theorem dX11_lies_112 : decode cX11_lies 112 = .ok (.ireturn, 1) := by decide +kernel
theorem dX11_placeIn_0 : decode cX11_placeIn 0 = .ok (.iconst (-1), 1) := by decide +kernel
theorem dX11_placeIn_1 : decode cX11_placeIn 1 = .ok (.istore_n 3, 1) := by decide +kernel
theorem dX11_placeIn_2 : decode cX11_placeIn 2 = .ok (.iconst 0, 1) := by decide +kernel
theorem dX11_placeIn_3 : decode cX11_placeIn 3 = .ok (.istore 4, 2) := by decide +kernel
theorem dX11_placeIn_5 : decode cX11_placeIn 5 = .ok (.iload 4, 2) := by decide +kernel
theorem dX11_placeIn_7 : decode cX11_placeIn 7 = .ok (.aload_n 0, 1) := by decide +kernel
theorem dX11_placeIn_8 : decode cX11_placeIn 8 = .ok (.iload_n 1, 1) := by decide +kernel
theorem dX11_placeIn_9 : decode cX11_placeIn 9 = .ok (.iconst 3, 1) := by decide +kernel
theorem dX11_placeIn_10 : decode cX11_placeIn 10 = .ok (.invokevirtual 40, 3) := by decide +kernel
theorem dX11_placeIn_13 : decode cX11_placeIn 13 = .ok (.if_icmp .ge 29, 3) := by decide +kernel
theorem dX11_placeIn_16 : decode cX11_placeIn 16 = .ok (.aload_n 0, 1) := by decide +kernel
theorem dX11_placeIn_17 : decode cX11_placeIn 17 = .ok (.iload_n 1, 1) := by decide +kernel
theorem dX11_placeIn_18 : decode cX11_placeIn 18 = .ok (.iconst 4, 1) := by decide +kernel
theorem dX11_placeIn_19 : decode cX11_placeIn 19 = .ok (.iload 4, 2) := by decide +kernel
theorem dX11_placeIn_21 : decode cX11_placeIn 21 = .ok (.iadd, 1) := by decide +kernel
theorem dX11_placeIn_22 : decode cX11_placeIn 22 = .ok (.invokevirtual 40, 3) := by decide +kernel
theorem dX11_placeIn_25 : decode cX11_placeIn 25 = .ok (.iload_n 2, 1) := by decide +kernel
theorem dX11_placeIn_26 : decode cX11_placeIn 26 = .ok (.if_icmp .ne 8, 3) := by decide +kernel
theorem dX11_placeIn_29 : decode cX11_placeIn 29 = .ok (.iload 4, 2) := by decide +kernel
theorem dX11_placeIn_31 : decode cX11_placeIn 31 = .ok (.goto 4, 3) := by decide +kernel
theorem dX11_placeIn_34 : decode cX11_placeIn 34 = .ok (.iload_n 3, 1) := by decide +kernel
theorem dX11_placeIn_35 : decode cX11_placeIn 35 = .ok (.istore_n 3, 1) := by decide +kernel
theorem dX11_placeIn_36 : decode cX11_placeIn 36 = .ok (.iinc 4 1, 3) := by decide +kernel
theorem dX11_placeIn_39 : decode cX11_placeIn 39 = .ok (.goto (-34), 3) := by decide +kernel
theorem dX11_placeIn_42 : decode cX11_placeIn 42 = .ok (.iload_n 3, 1) := by decide +kernel
theorem dX11_placeIn_43 : decode cX11_placeIn 43 = .ok (.ireturn, 1) := by decide +kernel
theorem dX11_joins_0 : decode cX11_joins 0 = .ok (.aload_n 0, 1) := by decide +kernel
theorem dX11_joins_1 : decode cX11_joins 1 = .ok (.iload_n 1, 1) := by decide +kernel
theorem dX11_joins_2 : decode cX11_joins 2 = .ok (.invokevirtual 77, 3) := by decide +kernel
theorem dX11_joins_5 : decode cX11_joins 5 = .ok (.ifCond .eq 11, 3) := by decide +kernel
theorem dX11_joins_8 : decode cX11_joins 8 = .ok (.aload_n 0, 1) := by decide +kernel
theorem dX11_joins_9 : decode cX11_joins 9 = .ok (.iload_n 2, 1) := by decide +kernel
theorem dX11_joins_10 : decode cX11_joins 10 = .ok (.invokevirtual 80, 3) := by decide +kernel
theorem dX11_joins_13 : decode cX11_joins 13 = .ok (.ifCond .ne 5, 3) := by decide +kernel
theorem dX11_joins_16 : decode cX11_joins 16 = .ok (.iconst (-1), 1) := by decide +kernel
theorem dX11_joins_17 : decode cX11_joins 17 = .ok (.ireturn, 1) := by decide +kernel
theorem dX11_joins_18 : decode cX11_joins 18 = .ok (.aload_n 0, 1) := by decide +kernel
theorem dX11_joins_19 : decode cX11_joins 19 = .ok (.iload_n 1, 1) := by decide +kernel
theorem dX11_joins_20 : decode cX11_joins 20 = .ok (.iload_n 2, 1) := by decide +kernel
theorem dX11_joins_21 : decode cX11_joins 21 = .ok (.invokevirtual 83, 3) := by decide +kernel
theorem dX11_joins_24 : decode cX11_joins 24 = .ok (.ifCond .lt 6, 3) := by decide +kernel
theorem dX11_joins_27 : decode cX11_joins 27 = .ok (.bipush (-2), 2) := by decide +kernel
theorem dX11_joins_29 : decode cX11_joins 29 = .ok (.ireturn, 1) := by decide +kernel
theorem dX11_joins_30 : decode cX11_joins 30 = .ok (.aload_n 0, 1) := by decide +kernel
theorem dX11_joins_31 : decode cX11_joins 31 = .ok (.iload_n 1, 1) := by decide +kernel
theorem dX11_joins_32 : decode cX11_joins 32 = .ok (.iconst 3, 1) := by decide +kernel
theorem dX11_joins_33 : decode cX11_joins 33 = .ok (.invokevirtual 40, 3) := by decide +kernel
theorem dX11_joins_36 : decode cX11_joins 36 = .ok (.istore_n 3, 1) := by decide +kernel
theorem dX11_joins_37 : decode cX11_joins 37 = .ok (.iload_n 3, 1) := by decide +kernel
theorem dX11_joins_38 : decode cX11_joins 38 = .ok (.iconst 5, 1) := by decide +kernel
theorem dX11_joins_39 : decode cX11_joins 39 = .ok (.if_icmp .ne 6, 3) := by decide +kernel
theorem dX11_joins_42 : decode cX11_joins 42 = .ok (.bipush (-3), 2) := by decide +kernel
theorem dX11_joins_44 : decode cX11_joins 44 = .ok (.ireturn, 1) := by decide +kernel
theorem dX11_joins_45 : decode cX11_joins 45 = .ok (.bipush 56, 2) := by decide +kernel
theorem dX11_joins_47 : decode cX11_joins 47 = .ok (.bipush 9, 2) := by decide +kernel
theorem dX11_joins_49 : decode cX11_joins 49 = .ok (.iload_n 1, 1) := by decide +kernel
theorem dX11_joins_50 : decode cX11_joins 50 = .ok (.imul, 1) := by decide +kernel
theorem dX11_joins_51 : decode cX11_joins 51 = .ok (.iadd, 1) := by decide +kernel
theorem dX11_joins_52 : decode cX11_joins 52 = .ok (.istore 4, 2) := by decide +kernel
theorem dX11_joins_54 : decode cX11_joins 54 = .ok (.aload_n 0, 1) := by decide +kernel
theorem dX11_joins_55 : decode cX11_joins 55 = .ok (.getfield 7, 3) := by decide +kernel
theorem dX11_joins_58 : decode cX11_joins 58 = .ok (.iload 4, 2) := by decide +kernel
theorem dX11_joins_60 : decode cX11_joins 60 = .ok (.iconst 4, 1) := by decide +kernel
theorem dX11_joins_61 : decode cX11_joins 61 = .ok (.iadd, 1) := by decide +kernel
theorem dX11_joins_62 : decode cX11_joins 62 = .ok (.iload_n 3, 1) := by decide +kernel
theorem dX11_joins_63 : decode cX11_joins 63 = .ok (.iadd, 1) := by decide +kernel
theorem dX11_joins_64 : decode cX11_joins 64 = .ok (.iload_n 2, 1) := by decide +kernel
theorem dX11_joins_65 : decode cX11_joins 65 = .ok (.iastore, 1) := by decide +kernel
theorem dX11_joins_66 : decode cX11_joins 66 = .ok (.aload_n 0, 1) := by decide +kernel
theorem dX11_joins_67 : decode cX11_joins 67 = .ok (.getfield 7, 3) := by decide +kernel
theorem dX11_joins_70 : decode cX11_joins 70 = .ok (.iload 4, 2) := by decide +kernel
theorem dX11_joins_72 : decode cX11_joins 72 = .ok (.iconst 3, 1) := by decide +kernel
theorem dX11_joins_73 : decode cX11_joins 73 = .ok (.iadd, 1) := by decide +kernel
theorem dX11_joins_74 : decode cX11_joins 74 = .ok (.dup2, 1) := by decide +kernel
theorem dX11_joins_75 : decode cX11_joins 75 = .ok (.iaload, 1) := by decide +kernel
theorem dX11_joins_76 : decode cX11_joins 76 = .ok (.iconst 1, 1) := by decide +kernel
theorem dX11_joins_77 : decode cX11_joins 77 = .ok (.iadd, 1) := by decide +kernel
theorem dX11_joins_78 : decode cX11_joins 78 = .ok (.iastore, 1) := by decide +kernel
theorem dX11_joins_79 : decode cX11_joins 79 = .ok (.iload_n 3, 1) := by decide +kernel
theorem dX11_joins_80 : decode cX11_joins 80 = .ok (.iconst 1, 1) := by decide +kernel
theorem dX11_joins_81 : decode cX11_joins 81 = .ok (.iadd, 1) := by decide +kernel
theorem dX11_joins_82 : decode cX11_joins 82 = .ok (.ireturn, 1) := by decide +kernel
theorem dX11_leaves_0 : decode cX11_leaves 0 = .ok (.aload_n 0, 1) := by decide +kernel
theorem dX11_leaves_1 : decode cX11_leaves 1 = .ok (.iload_n 1, 1) := by decide +kernel
theorem dX11_leaves_2 : decode cX11_leaves 2 = .ok (.invokevirtual 77, 3) := by decide +kernel
theorem dX11_leaves_5 : decode cX11_leaves 5 = .ok (.ifCond .eq 11, 3) := by decide +kernel
theorem dX11_leaves_8 : decode cX11_leaves 8 = .ok (.aload_n 0, 1) := by decide +kernel
theorem dX11_leaves_9 : decode cX11_leaves 9 = .ok (.iload_n 2, 1) := by decide +kernel
theorem dX11_leaves_10 : decode cX11_leaves 10 = .ok (.invokevirtual 80, 3) := by decide +kernel
theorem dX11_leaves_13 : decode cX11_leaves 13 = .ok (.ifCond .ne 5, 3) := by decide +kernel
theorem dX11_leaves_16 : decode cX11_leaves 16 = .ok (.iconst (-1), 1) := by decide +kernel
theorem dX11_leaves_17 : decode cX11_leaves 17 = .ok (.ireturn, 1) := by decide +kernel
theorem dX11_leaves_18 : decode cX11_leaves 18 = .ok (.aload_n 0, 1) := by decide +kernel
theorem dX11_leaves_19 : decode cX11_leaves 19 = .ok (.iload_n 1, 1) := by decide +kernel
theorem dX11_leaves_20 : decode cX11_leaves 20 = .ok (.iload_n 2, 1) := by decide +kernel
theorem dX11_leaves_21 : decode cX11_leaves 21 = .ok (.invokevirtual 83, 3) := by decide +kernel
theorem dX11_leaves_24 : decode cX11_leaves 24 = .ok (.istore_n 3, 1) := by decide +kernel
theorem dX11_leaves_25 : decode cX11_leaves 25 = .ok (.iload_n 3, 1) := by decide +kernel
theorem dX11_leaves_26 : decode cX11_leaves 26 = .ok (.ifCond .ge 6, 3) := by decide +kernel
theorem dX11_leaves_29 : decode cX11_leaves 29 = .ok (.bipush (-2), 2) := by decide +kernel
theorem dX11_leaves_31 : decode cX11_leaves 31 = .ok (.ireturn, 1) := by decide +kernel
theorem dX11_leaves_32 : decode cX11_leaves 32 = .ok (.bipush 56, 2) := by decide +kernel
theorem dX11_leaves_34 : decode cX11_leaves 34 = .ok (.bipush 9, 2) := by decide +kernel
theorem dX11_leaves_36 : decode cX11_leaves 36 = .ok (.iload_n 1, 1) := by decide +kernel
theorem dX11_leaves_37 : decode cX11_leaves 37 = .ok (.imul, 1) := by decide +kernel
theorem dX11_leaves_38 : decode cX11_leaves 38 = .ok (.iadd, 1) := by decide +kernel
theorem dX11_leaves_39 : decode cX11_leaves 39 = .ok (.istore 4, 2) := by decide +kernel
theorem dX11_leaves_41 : decode cX11_leaves 41 = .ok (.aload_n 0, 1) := by decide +kernel
theorem dX11_leaves_42 : decode cX11_leaves 42 = .ok (.getfield 7, 3) := by decide +kernel
theorem dX11_leaves_45 : decode cX11_leaves 45 = .ok (.iload 4, 2) := by decide +kernel
theorem dX11_leaves_47 : decode cX11_leaves 47 = .ok (.iconst 3, 1) := by decide +kernel
theorem dX11_leaves_48 : decode cX11_leaves 48 = .ok (.iadd, 1) := by decide +kernel
theorem dX11_leaves_49 : decode cX11_leaves 49 = .ok (.dup2, 1) := by decide +kernel
theorem dX11_leaves_50 : decode cX11_leaves 50 = .ok (.iaload, 1) := by decide +kernel
theorem dX11_leaves_51 : decode cX11_leaves 51 = .ok (.iconst 1, 1) := by decide +kernel
theorem dX11_leaves_52 : decode cX11_leaves 52 = .ok (.isub, 1) := by decide +kernel
theorem dX11_leaves_53 : decode cX11_leaves 53 = .ok (.iastore, 1) := by decide +kernel
theorem dX11_leaves_54 : decode cX11_leaves 54 = .ok (.iload_n 3, 1) := by decide +kernel
theorem dX11_leaves_55 : decode cX11_leaves 55 = .ok (.istore 5, 2) := by decide +kernel
theorem dX11_leaves_57 : decode cX11_leaves 57 = .ok (.iload 5, 2) := by decide +kernel
theorem dX11_leaves_59 : decode cX11_leaves 59 = .ok (.aload_n 0, 1) := by decide +kernel
theorem dX11_leaves_60 : decode cX11_leaves 60 = .ok (.getfield 7, 3) := by decide +kernel
theorem dX11_leaves_63 : decode cX11_leaves 63 = .ok (.iload 4, 2) := by decide +kernel
theorem dX11_leaves_65 : decode cX11_leaves 65 = .ok (.iconst 3, 1) := by decide +kernel
theorem dX11_leaves_66 : decode cX11_leaves 66 = .ok (.iadd, 1) := by decide +kernel
theorem dX11_leaves_67 : decode cX11_leaves 67 = .ok (.iaload, 1) := by decide +kernel
theorem dX11_leaves_68 : decode cX11_leaves 68 = .ok (.if_icmp .ge 35, 3) := by decide +kernel
theorem dX11_leaves_71 : decode cX11_leaves 71 = .ok (.aload_n 0, 1) := by decide +kernel
theorem dX11_leaves_72 : decode cX11_leaves 72 = .ok (.getfield 7, 3) := by decide +kernel
theorem dX11_leaves_75 : decode cX11_leaves 75 = .ok (.iload 4, 2) := by decide +kernel
theorem dX11_leaves_77 : decode cX11_leaves 77 = .ok (.iconst 4, 1) := by decide +kernel
theorem dX11_leaves_78 : decode cX11_leaves 78 = .ok (.iadd, 1) := by decide +kernel
theorem dX11_leaves_79 : decode cX11_leaves 79 = .ok (.iload 5, 2) := by decide +kernel
theorem dX11_leaves_81 : decode cX11_leaves 81 = .ok (.iadd, 1) := by decide +kernel
theorem dX11_leaves_82 : decode cX11_leaves 82 = .ok (.aload_n 0, 1) := by decide +kernel
theorem dX11_leaves_83 : decode cX11_leaves 83 = .ok (.getfield 7, 3) := by decide +kernel
theorem dX11_leaves_86 : decode cX11_leaves 86 = .ok (.iload 4, 2) := by decide +kernel
theorem dX11_leaves_88 : decode cX11_leaves 88 = .ok (.iconst 4, 1) := by decide +kernel
theorem dX11_leaves_89 : decode cX11_leaves 89 = .ok (.iadd, 1) := by decide +kernel
theorem dX11_leaves_90 : decode cX11_leaves 90 = .ok (.iload 5, 2) := by decide +kernel
theorem dX11_leaves_92 : decode cX11_leaves 92 = .ok (.iadd, 1) := by decide +kernel
theorem dX11_leaves_93 : decode cX11_leaves 93 = .ok (.iconst 1, 1) := by decide +kernel
theorem dX11_leaves_94 : decode cX11_leaves 94 = .ok (.iadd, 1) := by decide +kernel
theorem dX11_leaves_95 : decode cX11_leaves 95 = .ok (.iaload, 1) := by decide +kernel
theorem dX11_leaves_96 : decode cX11_leaves 96 = .ok (.iastore, 1) := by decide +kernel
theorem dX11_leaves_97 : decode cX11_leaves 97 = .ok (.iinc 5 1, 3) := by decide +kernel
theorem dX11_leaves_100 : decode cX11_leaves 100 = .ok (.goto (-43), 3) := by decide +kernel
theorem dX11_leaves_103 : decode cX11_leaves 103 = .ok (.aload_n 0, 1) := by decide +kernel
theorem dX11_leaves_104 : decode cX11_leaves 104 = .ok (.getfield 7, 3) := by decide +kernel
theorem dX11_leaves_107 : decode cX11_leaves 107 = .ok (.iload 4, 2) := by decide +kernel
theorem dX11_leaves_109 : decode cX11_leaves 109 = .ok (.iconst 3, 1) := by decide +kernel
theorem dX11_leaves_110 : decode cX11_leaves 110 = .ok (.iadd, 1) := by decide +kernel
theorem dX11_leaves_111 : decode cX11_leaves 111 = .ok (.iaload, 1) := by decide +kernel
theorem dX11_leaves_112 : decode cX11_leaves 112 = .ok (.ireturn, 1) := by decide +kernel
theorem dX11_rests_0 : decode cX11_rests 0 = .ok (.aload_n 0, 1) := by decide +kernel
theorem dX11_rests_1 : decode cX11_rests 1 = .ok (.iload_n 1, 1) := by decide +kernel
theorem dX11_rests_2 : decode cX11_rests 2 = .ok (.invokevirtual 80, 3) := by decide +kernel
theorem dX11_rests_5 : decode cX11_rests 5 = .ok (.ifCond .eq 23, 3) := by decide +kernel
theorem dX11_rests_8 : decode cX11_rests 8 = .ok (.iload_n 2, 1) := by decide +kernel
theorem dX11_rests_9 : decode cX11_rests 9 = .ok (.iconst 0, 1) := by decide +kernel
theorem dX11_rests_10 : decode cX11_rests 10 = .ok (.bipush 23, 2) := by decide +kernel
theorem dX11_rests_12 : decode cX11_rests 12 = .ok (.invokestatic 32, 3) := by decide +kernel
theorem dX11_rests_15 : decode cX11_rests 15 = .ok (.ifCond .eq 13, 3) := by decide +kernel
theorem dX11_rests_18 : decode cX11_rests 18 = .ok (.iload_n 3, 1) := by decide +kernel
theorem dX11_rests_19 : decode cX11_rests 19 = .ok (.iconst 0, 1) := by decide +kernel
theorem dX11_rests_20 : decode cX11_rests 20 = .ok (.bipush 23, 2) := by decide +kernel
theorem dX11_rests_22 : decode cX11_rests 22 = .ok (.invokestatic 32, 3) := by decide +kernel
theorem dX11_rests_25 : decode cX11_rests 25 = .ok (.ifCond .ne 5, 3) := by decide +kernel
theorem dX11_rests_28 : decode cX11_rests 28 = .ok (.iconst (-1), 1) := by decide +kernel
theorem dX11_rests_29 : decode cX11_rests 29 = .ok (.ireturn, 1) := by decide +kernel
theorem dX11_rests_30 : decode cX11_rests 30 = .ok (.aload_n 0, 1) := by decide +kernel
theorem dX11_rests_31 : decode cX11_rests 31 = .ok (.getfield 7, 3) := by decide +kernel
theorem dX11_rests_34 : decode cX11_rests 34 = .ok (.bipush 16, 2) := by decide +kernel
theorem dX11_rests_36 : decode cX11_rests 36 = .ok (.iconst 5, 1) := by decide +kernel
theorem dX11_rests_37 : decode cX11_rests 37 = .ok (.iload_n 1, 1) := by decide +kernel
theorem dX11_rests_38 : decode cX11_rests 38 = .ok (.imul, 1) := by decide +kernel
theorem dX11_rests_39 : decode cX11_rests 39 = .ok (.iadd, 1) := by decide +kernel
theorem dX11_rests_40 : decode cX11_rests 40 = .ok (.iconst 0, 1) := by decide +kernel
theorem dX11_rests_41 : decode cX11_rests 41 = .ok (.iadd, 1) := by decide +kernel
theorem dX11_rests_42 : decode cX11_rests 42 = .ok (.iload_n 2, 1) := by decide +kernel
theorem dX11_rests_43 : decode cX11_rests 43 = .ok (.iastore, 1) := by decide +kernel
theorem dX11_rests_44 : decode cX11_rests 44 = .ok (.aload_n 0, 1) := by decide +kernel
theorem dX11_rests_45 : decode cX11_rests 45 = .ok (.getfield 7, 3) := by decide +kernel
theorem dX11_rests_48 : decode cX11_rests 48 = .ok (.bipush 16, 2) := by decide +kernel
theorem dX11_rests_50 : decode cX11_rests 50 = .ok (.iconst 5, 1) := by decide +kernel
theorem dX11_rests_51 : decode cX11_rests 51 = .ok (.iload_n 1, 1) := by decide +kernel
theorem dX11_rests_52 : decode cX11_rests 52 = .ok (.imul, 1) := by decide +kernel
theorem dX11_rests_53 : decode cX11_rests 53 = .ok (.iadd, 1) := by decide +kernel
theorem dX11_rests_54 : decode cX11_rests 54 = .ok (.iconst 1, 1) := by decide +kernel
theorem dX11_rests_55 : decode cX11_rests 55 = .ok (.iadd, 1) := by decide +kernel
theorem dX11_rests_56 : decode cX11_rests 56 = .ok (.iload_n 3, 1) := by decide +kernel
theorem dX11_rests_57 : decode cX11_rests 57 = .ok (.iastore, 1) := by decide +kernel
theorem dX11_rests_58 : decode cX11_rests 58 = .ok (.iload_n 3, 1) := by decide +kernel
theorem dX11_rests_59 : decode cX11_rests 59 = .ok (.iload_n 2, 1) := by decide +kernel
theorem dX11_rests_60 : decode cX11_rests 60 = .ok (.isub, 1) := by decide +kernel
theorem dX11_rests_61 : decode cX11_rests 61 = .ok (.istore 4, 2) := by decide +kernel
theorem dX11_rests_63 : decode cX11_rests 63 = .ok (.iload 4, 2) := by decide +kernel
theorem dX11_rests_65 : decode cX11_rests 65 = .ok (.ifCond .ge 11, 3) := by decide +kernel
theorem dX11_rests_68 : decode cX11_rests 68 = .ok (.iload 4, 2) := by decide +kernel
theorem dX11_rests_70 : decode cX11_rests 70 = .ok (.bipush 24, 2) := by decide +kernel
theorem dX11_rests_72 : decode cX11_rests 72 = .ok (.iadd, 1) := by decide +kernel
theorem dX11_rests_73 : decode cX11_rests 73 = .ok (.goto 5, 3) := by decide +kernel
theorem dX11_rests_76 : decode cX11_rests 76 = .ok (.iload 4, 2) := by decide +kernel
theorem dX11_rests_78 : decode cX11_rests 78 = .ok (.ireturn, 1) := by decide +kernel
theorem dX11_ones_0 : decode cX11_ones 0 = .ok (.iconst 0, 1) := by decide +kernel
theorem dX11_ones_1 : decode cX11_ones 1 = .ok (.istore_n 1, 1) := by decide +kernel
theorem dX11_ones_2 : decode cX11_ones 2 = .ok (.iload_n 0, 1) := by decide +kernel
theorem dX11_ones_3 : decode cX11_ones 3 = .ok (.istore_n 2, 1) := by decide +kernel
theorem dX11_ones_4 : decode cX11_ones 4 = .ok (.iload_n 2, 1) := by decide +kernel
theorem dX11_ones_5 : decode cX11_ones 5 = .ok (.ifCond .le 16, 3) := by decide +kernel
theorem dX11_ones_8 : decode cX11_ones 8 = .ok (.iload_n 1, 1) := by decide +kernel
theorem dX11_ones_9 : decode cX11_ones 9 = .ok (.iload_n 2, 1) := by decide +kernel
theorem dX11_ones_10 : decode cX11_ones 10 = .ok (.iconst 2, 1) := by decide +kernel
theorem dX11_ones_11 : decode cX11_ones 11 = .ok (.irem, 1) := by decide +kernel
theorem dX11_ones_12 : decode cX11_ones 12 = .ok (.iadd, 1) := by decide +kernel
theorem dX11_ones_13 : decode cX11_ones 13 = .ok (.istore_n 1, 1) := by decide +kernel
theorem dX11_ones_14 : decode cX11_ones 14 = .ok (.iload_n 2, 1) := by decide +kernel
theorem dX11_ones_15 : decode cX11_ones 15 = .ok (.iconst 2, 1) := by decide +kernel
theorem dX11_ones_16 : decode cX11_ones 16 = .ok (.idiv, 1) := by decide +kernel
theorem dX11_ones_17 : decode cX11_ones 17 = .ok (.istore_n 2, 1) := by decide +kernel
theorem dX11_ones_18 : decode cX11_ones 18 = .ok (.goto (-14), 3) := by decide +kernel
theorem dX11_ones_21 : decode cX11_ones 21 = .ok (.iload_n 1, 1) := by decide +kernel
theorem dX11_ones_22 : decode cX11_ones 22 = .ok (.ireturn, 1) := by decide +kernel
theorem dX11_excepts_0 : decode cX11_excepts 0 = .ok (.aload_n 0, 1) := by decide +kernel
theorem dX11_excepts_1 : decode cX11_excepts 1 = .ok (.iload_n 1, 1) := by decide +kernel
theorem dX11_excepts_2 : decode cX11_excepts 2 = .ok (.invokevirtual 80, 3) := by decide +kernel
theorem dX11_excepts_5 : decode cX11_excepts 5 = .ok (.ifCond .eq 13, 3) := by decide +kernel
theorem dX11_excepts_8 : decode cX11_excepts 8 = .ok (.iload_n 2, 1) := by decide +kernel
theorem dX11_excepts_9 : decode cX11_excepts 9 = .ok (.iconst 0, 1) := by decide +kernel
theorem dX11_excepts_10 : decode cX11_excepts 10 = .ok (.bipush 19, 2) := by decide +kernel
theorem dX11_excepts_12 : decode cX11_excepts 12 = .ok (.invokestatic 32, 3) := by decide +kernel
theorem dX11_excepts_15 : decode cX11_excepts 15 = .ok (.ifCond .ne 5, 3) := by decide +kernel
theorem dX11_excepts_18 : decode cX11_excepts 18 = .ok (.iconst (-1), 1) := by decide +kernel
theorem dX11_excepts_19 : decode cX11_excepts 19 = .ok (.ireturn, 1) := by decide +kernel
theorem dX11_excepts_20 : decode cX11_excepts 20 = .ok (.aload_n 0, 1) := by decide +kernel
theorem dX11_excepts_21 : decode cX11_excepts 21 = .ok (.getfield 7, 3) := by decide +kernel
theorem dX11_excepts_24 : decode cX11_excepts 24 = .ok (.bipush 16, 2) := by decide +kernel
theorem dX11_excepts_26 : decode cX11_excepts 26 = .ok (.iconst 5, 1) := by decide +kernel
theorem dX11_excepts_27 : decode cX11_excepts 27 = .ok (.iload_n 1, 1) := by decide +kernel
theorem dX11_excepts_28 : decode cX11_excepts 28 = .ok (.imul, 1) := by decide +kernel
theorem dX11_excepts_29 : decode cX11_excepts 29 = .ok (.iadd, 1) := by decide +kernel
theorem dX11_excepts_30 : decode cX11_excepts 30 = .ok (.iconst 2, 1) := by decide +kernel
theorem dX11_excepts_31 : decode cX11_excepts 31 = .ok (.iadd, 1) := by decide +kernel
theorem dX11_excepts_32 : decode cX11_excepts 32 = .ok (.dup2, 1) := by decide +kernel
theorem dX11_excepts_33 : decode cX11_excepts 33 = .ok (.iaload, 1) := by decide +kernel
theorem dX11_excepts_34 : decode cX11_excepts 34 = .ok (.iconst 1, 1) := by decide +kernel
theorem dX11_excepts_35 : decode cX11_excepts 35 = .ok (.iload_n 2, 1) := by decide +kernel
theorem dX11_excepts_36 : decode cX11_excepts 36 = .ok (.ishl, 1) := by decide +kernel
theorem dX11_excepts_37 : decode cX11_excepts 37 = .ok (.ixor, 1) := by decide +kernel
theorem dX11_excepts_38 : decode cX11_excepts 38 = .ok (.iastore, 1) := by decide +kernel
theorem dX11_excepts_39 : decode cX11_excepts 39 = .ok (.aload_n 0, 1) := by decide +kernel
theorem dX11_excepts_40 : decode cX11_excepts 40 = .ok (.iload_n 1, 1) := by decide +kernel
theorem dX11_excepts_41 : decode cX11_excepts 41 = .ok (.iconst 2, 1) := by decide +kernel
theorem dX11_excepts_42 : decode cX11_excepts 42 = .ok (.invokevirtual 54, 3) := by decide +kernel
theorem dX11_excepts_45 : decode cX11_excepts 45 = .ok (.invokestatic 86, 3) := by decide +kernel
theorem dX11_excepts_48 : decode cX11_excepts 48 = .ok (.ireturn, 1) := by decide +kernel
theorem dX11_inForce_0 : decode cX11_inForce 0 = .ok (.iconst 0, 1) := by decide +kernel
theorem dX11_inForce_1 : decode cX11_inForce 1 = .ok (.istore_n 1, 1) := by decide +kernel
theorem dX11_inForce_2 : decode cX11_inForce 2 = .ok (.iconst 0, 1) := by decide +kernel
theorem dX11_inForce_3 : decode cX11_inForce 3 = .ok (.istore_n 2, 1) := by decide +kernel
theorem dX11_inForce_4 : decode cX11_inForce 4 = .ok (.iload_n 2, 1) := by decide +kernel
theorem dX11_inForce_5 : decode cX11_inForce 5 = .ok (.aload_n 0, 1) := by decide +kernel
theorem dX11_inForce_6 : decode cX11_inForce 6 = .ok (.getfield 7, 3) := by decide +kernel
theorem dX11_inForce_9 : decode cX11_inForce 9 = .ok (.bipush 15, 2) := by decide +kernel
theorem dX11_inForce_11 : decode cX11_inForce 11 = .ok (.iaload, 1) := by decide +kernel
theorem dX11_inForce_12 : decode cX11_inForce 12 = .ok (.if_icmp .ge 39, 3) := by decide +kernel
theorem dX11_inForce_15 : decode cX11_inForce 15 = .ok (.iload_n 1, 1) := by decide +kernel
theorem dX11_inForce_16 : decode cX11_inForce 16 = .ok (.aload_n 0, 1) := by decide +kernel
theorem dX11_inForce_17 : decode cX11_inForce 17 = .ok (.getfield 7, 3) := by decide +kernel
theorem dX11_inForce_20 : decode cX11_inForce 20 = .ok (.bipush 83, 2) := by decide +kernel
theorem dX11_inForce_22 : decode cX11_inForce 22 = .ok (.iconst 3, 1) := by decide +kernel
theorem dX11_inForce_23 : decode cX11_inForce 23 = .ok (.iload_n 2, 1) := by decide +kernel
theorem dX11_inForce_24 : decode cX11_inForce 24 = .ok (.imul, 1) := by decide +kernel
theorem dX11_inForce_25 : decode cX11_inForce 25 = .ok (.iadd, 1) := by decide +kernel
theorem dX11_inForce_26 : decode cX11_inForce 26 = .ok (.iconst 2, 1) := by decide +kernel
theorem dX11_inForce_27 : decode cX11_inForce 27 = .ok (.iadd, 1) := by decide +kernel
theorem dX11_inForce_28 : decode cX11_inForce 28 = .ok (.iaload, 1) := by decide +kernel
theorem dX11_inForce_29 : decode cX11_inForce 29 = .ok (.aload_n 0, 1) := by decide +kernel
theorem dX11_inForce_30 : decode cX11_inForce 30 = .ok (.getfield 7, 3) := by decide +kernel
theorem dX11_inForce_33 : decode cX11_inForce 33 = .ok (.iconst 2, 1) := by decide +kernel
theorem dX11_inForce_34 : decode cX11_inForce 34 = .ok (.iaload, 1) := by decide +kernel
theorem dX11_inForce_35 : decode cX11_inForce 35 = .ok (.if_icmp .le 7, 3) := by decide +kernel
theorem dX11_inForce_38 : decode cX11_inForce 38 = .ok (.iconst 1, 1) := by decide +kernel
theorem dX11_inForce_39 : decode cX11_inForce 39 = .ok (.goto 4, 3) := by decide +kernel
theorem dX11_inForce_42 : decode cX11_inForce 42 = .ok (.iconst 0, 1) := by decide +kernel
theorem dX11_inForce_43 : decode cX11_inForce 43 = .ok (.iadd, 1) := by decide +kernel
theorem dX11_inForce_44 : decode cX11_inForce 44 = .ok (.istore_n 1, 1) := by decide +kernel
theorem dX11_inForce_45 : decode cX11_inForce 45 = .ok (.iinc 2 1, 3) := by decide +kernel
theorem dX11_inForce_48 : decode cX11_inForce 48 = .ok (.goto (-44), 3) := by decide +kernel
theorem dX11_inForce_51 : decode cX11_inForce 51 = .ok (.iload_n 1, 1) := by decide +kernel
theorem dX11_inForce_52 : decode cX11_inForce 52 = .ok (.ireturn, 1) := by decide +kernel
theorem dX11_clears_0 : decode cX11_clears 0 = .ok (.iconst 0, 1) := by decide +kernel
theorem dX11_clears_1 : decode cX11_clears 1 = .ok (.istore_n 1, 1) := by decide +kernel
theorem dX11_clears_2 : decode cX11_clears 2 = .ok (.iconst 0, 1) := by decide +kernel
theorem dX11_clears_3 : decode cX11_clears 3 = .ok (.istore_n 2, 1) := by decide +kernel
theorem dX11_clears_4 : decode cX11_clears 4 = .ok (.iload_n 2, 1) := by decide +kernel
theorem dX11_clears_5 : decode cX11_clears 5 = .ok (.aload_n 0, 1) := by decide +kernel
theorem dX11_clears_6 : decode cX11_clears 6 = .ok (.getfield 7, 3) := by decide +kernel
theorem dX11_clears_9 : decode cX11_clears 9 = .ok (.bipush 15, 2) := by decide +kernel
theorem dX11_clears_11 : decode cX11_clears 11 = .ok (.iaload, 1) := by decide +kernel
theorem dX11_clears_12 : decode cX11_clears 12 = .ok (.if_icmp .ge 73, 3) := by decide +kernel
theorem dX11_clears_15 : decode cX11_clears 15 = .ok (.aload_n 0, 1) := by decide +kernel
theorem dX11_clears_16 : decode cX11_clears 16 = .ok (.getfield 7, 3) := by decide +kernel
theorem dX11_clears_19 : decode cX11_clears 19 = .ok (.bipush 83, 2) := by decide +kernel
theorem dX11_clears_21 : decode cX11_clears 21 = .ok (.iconst 3, 1) := by decide +kernel
theorem dX11_clears_22 : decode cX11_clears 22 = .ok (.iload_n 2, 1) := by decide +kernel
theorem dX11_clears_23 : decode cX11_clears 23 = .ok (.imul, 1) := by decide +kernel
theorem dX11_clears_24 : decode cX11_clears 24 = .ok (.iadd, 1) := by decide +kernel
theorem dX11_clears_25 : decode cX11_clears 25 = .ok (.iconst 2, 1) := by decide +kernel
theorem dX11_clears_26 : decode cX11_clears 26 = .ok (.iadd, 1) := by decide +kernel
theorem dX11_clears_27 : decode cX11_clears 27 = .ok (.iaload, 1) := by decide +kernel
theorem dX11_clears_28 : decode cX11_clears 28 = .ok (.aload_n 0, 1) := by decide +kernel
theorem dX11_clears_29 : decode cX11_clears 29 = .ok (.getfield 7, 3) := by decide +kernel
theorem dX11_clears_32 : decode cX11_clears 32 = .ok (.iconst 2, 1) := by decide +kernel
theorem dX11_clears_33 : decode cX11_clears 33 = .ok (.iaload, 1) := by decide +kernel
theorem dX11_clears_34 : decode cX11_clears 34 = .ok (.if_icmp .le 45, 3) := by decide +kernel
theorem dX11_clears_37 : decode cX11_clears 37 = .ok (.iconst 0, 1) := by decide +kernel
theorem dX11_clears_38 : decode cX11_clears 38 = .ok (.istore_n 3, 1) := by decide +kernel
theorem dX11_clears_39 : decode cX11_clears 39 = .ok (.iload_n 3, 1) := by decide +kernel
theorem dX11_clears_40 : decode cX11_clears 40 = .ok (.iconst 3, 1) := by decide +kernel
theorem dX11_clears_41 : decode cX11_clears 41 = .ok (.if_icmp .ge 35, 3) := by decide +kernel
theorem dX11_clears_44 : decode cX11_clears 44 = .ok (.aload_n 0, 1) := by decide +kernel
theorem dX11_clears_45 : decode cX11_clears 45 = .ok (.getfield 7, 3) := by decide +kernel
theorem dX11_clears_48 : decode cX11_clears 48 = .ok (.bipush 83, 2) := by decide +kernel
theorem dX11_clears_50 : decode cX11_clears 50 = .ok (.iconst 3, 1) := by decide +kernel
theorem dX11_clears_51 : decode cX11_clears 51 = .ok (.iload_n 1, 1) := by decide +kernel
theorem dX11_clears_52 : decode cX11_clears 52 = .ok (.imul, 1) := by decide +kernel
theorem dX11_clears_53 : decode cX11_clears 53 = .ok (.iadd, 1) := by decide +kernel
theorem dX11_clears_54 : decode cX11_clears 54 = .ok (.iload_n 3, 1) := by decide +kernel
theorem dX11_clears_55 : decode cX11_clears 55 = .ok (.iadd, 1) := by decide +kernel
theorem dX11_clears_56 : decode cX11_clears 56 = .ok (.aload_n 0, 1) := by decide +kernel
theorem dX11_clears_57 : decode cX11_clears 57 = .ok (.getfield 7, 3) := by decide +kernel
theorem dX11_clears_60 : decode cX11_clears 60 = .ok (.bipush 83, 2) := by decide +kernel
theorem dX11_clears_62 : decode cX11_clears 62 = .ok (.iconst 3, 1) := by decide +kernel
theorem dX11_clears_63 : decode cX11_clears 63 = .ok (.iload_n 2, 1) := by decide +kernel
theorem dX11_clears_64 : decode cX11_clears 64 = .ok (.imul, 1) := by decide +kernel
theorem dX11_clears_65 : decode cX11_clears 65 = .ok (.iadd, 1) := by decide +kernel
theorem dX11_clears_66 : decode cX11_clears 66 = .ok (.iload_n 3, 1) := by decide +kernel
theorem dX11_clears_67 : decode cX11_clears 67 = .ok (.iadd, 1) := by decide +kernel
theorem dX11_clears_68 : decode cX11_clears 68 = .ok (.iaload, 1) := by decide +kernel
theorem dX11_clears_69 : decode cX11_clears 69 = .ok (.iastore, 1) := by decide +kernel
theorem dX11_clears_70 : decode cX11_clears 70 = .ok (.iinc 3 1, 3) := by decide +kernel
theorem dX11_clears_73 : decode cX11_clears 73 = .ok (.goto (-34), 3) := by decide +kernel
theorem dX11_clears_76 : decode cX11_clears 76 = .ok (.iinc 1 1, 3) := by decide +kernel
theorem dX11_clears_79 : decode cX11_clears 79 = .ok (.iinc 2 1, 3) := by decide +kernel
theorem dX11_clears_82 : decode cX11_clears 82 = .ok (.goto (-78), 3) := by decide +kernel
theorem dX11_clears_85 : decode cX11_clears 85 = .ok (.aload_n 0, 1) := by decide +kernel
theorem dX11_clears_86 : decode cX11_clears 86 = .ok (.getfield 7, 3) := by decide +kernel
theorem dX11_clears_89 : decode cX11_clears 89 = .ok (.bipush 15, 2) := by decide +kernel
theorem dX11_clears_91 : decode cX11_clears 91 = .ok (.iload_n 1, 1) := by decide +kernel
theorem dX11_clears_92 : decode cX11_clears 92 = .ok (.iastore, 1) := by decide +kernel
theorem dX11_clears_93 : decode cX11_clears 93 = .ok (.return_, 1) := by decide +kernel
theorem dX11_overrides_0 : decode cX11_overrides 0 = .ok (.aload_n 0, 1) := by decide +kernel
theorem dX11_overrides_1 : decode cX11_overrides 1 = .ok (.iload_n 1, 1) := by decide +kernel
theorem dX11_overrides_2 : decode cX11_overrides 2 = .ok (.invokevirtual 77, 3) := by decide +kernel
theorem dX11_overrides_5 : decode cX11_overrides 5 = .ok (.ifCond .eq 21, 3) := by decide +kernel
theorem dX11_overrides_8 : decode cX11_overrides 8 = .ok (.aload_n 0, 1) := by decide +kernel
theorem dX11_overrides_9 : decode cX11_overrides 9 = .ok (.iload_n 2, 1) := by decide +kernel
theorem dX11_overrides_10 : decode cX11_overrides 10 = .ok (.invokevirtual 80, 3) := by decide +kernel
theorem dX11_overrides_13 : decode cX11_overrides 13 = .ok (.ifCond .eq 13, 3) := by decide +kernel
theorem dX11_overrides_16 : decode cX11_overrides 16 = .ok (.iload_n 3, 1) := by decide +kernel
theorem dX11_overrides_17 : decode cX11_overrides 17 = .ok (.iconst 1, 1) := by decide +kernel
theorem dX11_overrides_18 : decode cX11_overrides 18 = .ok (.bipush 99, 2) := by decide +kernel
theorem dX11_overrides_20 : decode cX11_overrides 20 = .ok (.invokestatic 32, 3) := by decide +kernel
theorem dX11_overrides_23 : decode cX11_overrides 23 = .ok (.ifCond .ne 5, 3) := by decide +kernel
theorem dX11_overrides_26 : decode cX11_overrides 26 = .ok (.iconst (-1), 1) := by decide +kernel
theorem dX11_overrides_27 : decode cX11_overrides 27 = .ok (.ireturn, 1) := by decide +kernel
theorem dX11_overrides_28 : decode cX11_overrides 28 = .ok (.aload_n 0, 1) := by decide +kernel
theorem dX11_overrides_29 : decode cX11_overrides 29 = .ok (.invokevirtual 89, 3) := by decide +kernel
theorem dX11_overrides_32 : decode cX11_overrides 32 = .ok (.bipush 6, 2) := by decide +kernel
theorem dX11_overrides_34 : decode cX11_overrides 34 = .ok (.if_icmp .ne 6, 3) := by decide +kernel
theorem dX11_overrides_37 : decode cX11_overrides 37 = .ok (.bipush (-3), 2) := by decide +kernel
theorem dX11_overrides_39 : decode cX11_overrides 39 = .ok (.ireturn, 1) := by decide +kernel
theorem dX11_overrides_40 : decode cX11_overrides 40 = .ok (.aload_n 0, 1) := by decide +kernel
theorem dX11_overrides_41 : decode cX11_overrides 41 = .ok (.invokevirtual 93, 3) := by decide +kernel
theorem dX11_overrides_44 : decode cX11_overrides 44 = .ok (.bipush 83, 2) := by decide +kernel
theorem dX11_overrides_46 : decode cX11_overrides 46 = .ok (.iconst 3, 1) := by decide +kernel
theorem dX11_overrides_47 : decode cX11_overrides 47 = .ok (.aload_n 0, 1) := by decide +kernel
theorem dX11_overrides_48 : decode cX11_overrides 48 = .ok (.getfield 7, 3) := by decide +kernel
theorem dX11_overrides_51 : decode cX11_overrides 51 = .ok (.bipush 15, 2) := by decide +kernel
theorem dX11_overrides_53 : decode cX11_overrides 53 = .ok (.iaload, 1) := by decide +kernel
theorem dX11_overrides_54 : decode cX11_overrides 54 = .ok (.imul, 1) := by decide +kernel
theorem dX11_overrides_55 : decode cX11_overrides 55 = .ok (.iadd, 1) := by decide +kernel
theorem dX11_overrides_56 : decode cX11_overrides 56 = .ok (.istore 4, 2) := by decide +kernel
theorem dX11_overrides_58 : decode cX11_overrides 58 = .ok (.aload_n 0, 1) := by decide +kernel
theorem dX11_overrides_59 : decode cX11_overrides 59 = .ok (.getfield 7, 3) := by decide +kernel
theorem dX11_overrides_62 : decode cX11_overrides 62 = .ok (.iload 4, 2) := by decide +kernel
theorem dX11_overrides_64 : decode cX11_overrides 64 = .ok (.iload_n 1, 1) := by decide +kernel
theorem dX11_overrides_65 : decode cX11_overrides 65 = .ok (.iastore, 1) := by decide +kernel
theorem dX11_overrides_66 : decode cX11_overrides 66 = .ok (.aload_n 0, 1) := by decide +kernel
theorem dX11_overrides_67 : decode cX11_overrides 67 = .ok (.getfield 7, 3) := by decide +kernel
theorem dX11_overrides_70 : decode cX11_overrides 70 = .ok (.iload 4, 2) := by decide +kernel
theorem dX11_overrides_72 : decode cX11_overrides 72 = .ok (.iconst 1, 1) := by decide +kernel
theorem dX11_overrides_73 : decode cX11_overrides 73 = .ok (.iadd, 1) := by decide +kernel
theorem dX11_overrides_74 : decode cX11_overrides 74 = .ok (.iload_n 2, 1) := by decide +kernel
theorem dX11_overrides_75 : decode cX11_overrides 75 = .ok (.iastore, 1) := by decide +kernel
theorem dX11_overrides_76 : decode cX11_overrides 76 = .ok (.aload_n 0, 1) := by decide +kernel
theorem dX11_overrides_77 : decode cX11_overrides 77 = .ok (.getfield 7, 3) := by decide +kernel
theorem dX11_overrides_80 : decode cX11_overrides 80 = .ok (.iload 4, 2) := by decide +kernel
theorem dX11_overrides_82 : decode cX11_overrides 82 = .ok (.iconst 2, 1) := by decide +kernel
theorem dX11_overrides_83 : decode cX11_overrides 83 = .ok (.iadd, 1) := by decide +kernel
theorem dX11_overrides_84 : decode cX11_overrides 84 = .ok (.aload_n 0, 1) := by decide +kernel
theorem dX11_overrides_85 : decode cX11_overrides 85 = .ok (.getfield 7, 3) := by decide +kernel
theorem dX11_overrides_88 : decode cX11_overrides 88 = .ok (.iconst 2, 1) := by decide +kernel
theorem dX11_overrides_89 : decode cX11_overrides 89 = .ok (.iaload, 1) := by decide +kernel
theorem dX11_overrides_90 : decode cX11_overrides 90 = .ok (.bipush 60, 2) := by decide +kernel
theorem dX11_overrides_92 : decode cX11_overrides 92 = .ok (.iload_n 3, 1) := by decide +kernel
theorem dX11_overrides_93 : decode cX11_overrides 93 = .ok (.imul, 1) := by decide +kernel
theorem dX11_overrides_94 : decode cX11_overrides 94 = .ok (.iadd, 1) := by decide +kernel
theorem dX11_overrides_95 : decode cX11_overrides 95 = .ok (.iastore, 1) := by decide +kernel
theorem dX11_overrides_96 : decode cX11_overrides 96 = .ok (.aload_n 0, 1) := by decide +kernel
theorem dX11_overrides_97 : decode cX11_overrides 97 = .ok (.getfield 7, 3) := by decide +kernel
theorem dX11_overrides_100 : decode cX11_overrides 100 = .ok (.bipush 15, 2) := by decide +kernel
theorem dX11_overrides_102 : decode cX11_overrides 102 = .ok (.dup2, 1) := by decide +kernel
theorem dX11_overrides_103 : decode cX11_overrides 103 = .ok (.iaload, 1) := by decide +kernel
theorem dX11_overrides_104 : decode cX11_overrides 104 = .ok (.iconst 1, 1) := by decide +kernel
theorem dX11_overrides_105 : decode cX11_overrides 105 = .ok (.iadd, 1) := by decide +kernel
theorem dX11_overrides_106 : decode cX11_overrides 106 = .ok (.iastore, 1) := by decide +kernel
theorem dX11_overrides_107 : decode cX11_overrides 107 = .ok (.aload_n 0, 1) := by decide +kernel
theorem dX11_overrides_108 : decode cX11_overrides 108 = .ok (.getfield 7, 3) := by decide +kernel
theorem dX11_overrides_111 : decode cX11_overrides 111 = .ok (.bipush 15, 2) := by decide +kernel
theorem dX11_overrides_113 : decode cX11_overrides 113 = .ok (.iaload, 1) := by decide +kernel
theorem dX11_overrides_114 : decode cX11_overrides 114 = .ok (.ireturn, 1) := by decide +kernel
theorem dX11_foldsInto_0 : decode cX11_foldsInto 0 = .ok (.iconst 0, 1) := by decide +kernel
theorem dX11_foldsInto_1 : decode cX11_foldsInto 1 = .ok (.istore_n 2, 1) := by decide +kernel
theorem dX11_foldsInto_2 : decode cX11_foldsInto 2 = .ok (.iload_n 2, 1) := by decide +kernel
theorem dX11_foldsInto_3 : decode cX11_foldsInto 3 = .ok (.bipush 8, 2) := by decide +kernel
theorem dX11_foldsInto_5 : decode cX11_foldsInto 5 = .ok (.if_icmp .ge 62, 3) := by decide +kernel
theorem dX11_foldsInto_8 : decode cX11_foldsInto 8 = .ok (.iload_n 2, 1) := by decide +kernel
theorem dX11_foldsInto_9 : decode cX11_foldsInto 9 = .ok (.invokestatic 36, 3) := by decide +kernel
theorem dX11_foldsInto_12 : decode cX11_foldsInto 12 = .ok (.istore_n 3, 1) := by decide +kernel
theorem dX11_foldsInto_13 : decode cX11_foldsInto 13 = .ok (.aload_n 0, 1) := by decide +kernel
theorem dX11_foldsInto_14 : decode cX11_foldsInto 14 = .ok (.iload_n 2, 1) := by decide +kernel
theorem dX11_foldsInto_15 : decode cX11_foldsInto 15 = .ok (.invokevirtual 70, 3) := by decide +kernel
theorem dX11_foldsInto_18 : decode cX11_foldsInto 18 = .ok (.ifCond .eq 43, 3) := by decide +kernel
theorem dX11_foldsInto_21 : decode cX11_foldsInto 21 = .ok (.aload_n 0, 1) := by decide +kernel
theorem dX11_foldsInto_22 : decode cX11_foldsInto 22 = .ok (.getfield 7, 3) := by decide +kernel
theorem dX11_foldsInto_25 : decode cX11_foldsInto 25 = .ok (.iload_n 3, 1) := by decide +kernel
theorem dX11_foldsInto_26 : decode cX11_foldsInto 26 = .ok (.iconst 1, 1) := by decide +kernel
theorem dX11_foldsInto_27 : decode cX11_foldsInto 27 = .ok (.iadd, 1) := by decide +kernel
theorem dX11_foldsInto_28 : decode cX11_foldsInto 28 = .ok (.iaload, 1) := by decide +kernel
theorem dX11_foldsInto_29 : decode cX11_foldsInto 29 = .ok (.iload_n 1, 1) := by decide +kernel
theorem dX11_foldsInto_30 : decode cX11_foldsInto 30 = .ok (.if_icmp .ne 31, 3) := by decide +kernel
theorem dX11_foldsInto_33 : decode cX11_foldsInto 33 = .ok (.aload_n 0, 1) := by decide +kernel
theorem dX11_foldsInto_34 : decode cX11_foldsInto 34 = .ok (.getfield 7, 3) := by decide +kernel
theorem dX11_foldsInto_37 : decode cX11_foldsInto 37 = .ok (.iconst 2, 1) := by decide +kernel
theorem dX11_foldsInto_38 : decode cX11_foldsInto 38 = .ok (.iaload, 1) := by decide +kernel
theorem dX11_foldsInto_39 : decode cX11_foldsInto 39 = .ok (.aload_n 0, 1) := by decide +kernel
theorem dX11_foldsInto_40 : decode cX11_foldsInto 40 = .ok (.getfield 7, 3) := by decide +kernel
theorem dX11_foldsInto_43 : decode cX11_foldsInto 43 = .ok (.iload_n 3, 1) := by decide +kernel
theorem dX11_foldsInto_44 : decode cX11_foldsInto 44 = .ok (.bipush 8, 2) := by decide +kernel
theorem dX11_foldsInto_46 : decode cX11_foldsInto 46 = .ok (.iadd, 1) := by decide +kernel
theorem dX11_foldsInto_47 : decode cX11_foldsInto 47 = .ok (.iaload, 1) := by decide +kernel
theorem dX11_foldsInto_48 : decode cX11_foldsInto 48 = .ok (.isub, 1) := by decide +kernel
theorem dX11_foldsInto_49 : decode cX11_foldsInto 49 = .ok (.aload_n 0, 1) := by decide +kernel
theorem dX11_foldsInto_50 : decode cX11_foldsInto 50 = .ok (.getfield 7, 3) := by decide +kernel
theorem dX11_foldsInto_53 : decode cX11_foldsInto 53 = .ok (.bipush 14, 2) := by decide +kernel
theorem dX11_foldsInto_55 : decode cX11_foldsInto 55 = .ok (.iaload, 1) := by decide +kernel
theorem dX11_foldsInto_56 : decode cX11_foldsInto 56 = .ok (.if_icmp .gt 5, 3) := by decide +kernel
theorem dX11_foldsInto_59 : decode cX11_foldsInto 59 = .ok (.iload_n 2, 1) := by decide +kernel
theorem dX11_foldsInto_60 : decode cX11_foldsInto 60 = .ok (.ireturn, 1) := by decide +kernel
theorem dX11_foldsInto_61 : decode cX11_foldsInto 61 = .ok (.iinc 2 1, 3) := by decide +kernel
theorem dX11_foldsInto_64 : decode cX11_foldsInto 64 = .ok (.goto (-62), 3) := by decide +kernel
theorem dX11_foldsInto_67 : decode cX11_foldsInto 67 = .ok (.iconst (-1), 1) := by decide +kernel
theorem dX11_foldsInto_68 : decode cX11_foldsInto 68 = .ok (.ireturn, 1) := by decide +kernel
theorem dX11_lowestFree_0 : decode cX11_lowestFree 0 = .ok (.iconst (-1), 1) := by decide +kernel
theorem dX11_lowestFree_1 : decode cX11_lowestFree 1 = .ok (.istore_n 1, 1) := by decide +kernel
theorem dX11_lowestFree_2 : decode cX11_lowestFree 2 = .ok (.bipush 7, 2) := by decide +kernel
theorem dX11_lowestFree_4 : decode cX11_lowestFree 4 = .ok (.istore_n 2, 1) := by decide +kernel
theorem dX11_lowestFree_5 : decode cX11_lowestFree 5 = .ok (.iload_n 2, 1) := by decide +kernel
theorem dX11_lowestFree_6 : decode cX11_lowestFree 6 = .ok (.ifCond .lt 23, 3) := by decide +kernel
theorem dX11_lowestFree_9 : decode cX11_lowestFree 9 = .ok (.aload_n 0, 1) := by decide +kernel
theorem dX11_lowestFree_10 : decode cX11_lowestFree 10 = .ok (.iload_n 2, 1) := by decide +kernel
theorem dX11_lowestFree_11 : decode cX11_lowestFree 11 = .ok (.invokevirtual 70, 3) := by decide +kernel
theorem dX11_lowestFree_14 : decode cX11_lowestFree 14 = .ok (.ifCond .eq 7, 3) := by decide +kernel
theorem dX11_lowestFree_17 : decode cX11_lowestFree 17 = .ok (.iload_n 1, 1) := by decide +kernel
theorem dX11_lowestFree_18 : decode cX11_lowestFree 18 = .ok (.goto 4, 3) := by decide +kernel
theorem dX11_lowestFree_21 : decode cX11_lowestFree 21 = .ok (.iload_n 2, 1) := by decide +kernel
theorem dX11_lowestFree_22 : decode cX11_lowestFree 22 = .ok (.istore_n 1, 1) := by decide +kernel
theorem dX11_lowestFree_23 : decode cX11_lowestFree 23 = .ok (.iinc 2 (-1), 3) := by decide +kernel
theorem dX11_lowestFree_26 : decode cX11_lowestFree 26 = .ok (.goto (-21), 3) := by decide +kernel
theorem dX11_lowestFree_29 : decode cX11_lowestFree 29 = .ok (.iload_n 1, 1) := by decide +kernel
theorem dX11_lowestFree_30 : decode cX11_lowestFree 30 = .ok (.ireturn, 1) := by decide +kernel
theorem dX11_opens_0 : decode cX11_opens 0 = .ok (.aload_n 0, 1) := by decide +kernel
theorem dX11_opens_1 : decode cX11_opens 1 = .ok (.invokevirtual 96, 3) := by decide +kernel
theorem dX11_opens_4 : decode cX11_opens 4 = .ok (.istore_n 3, 1) := by decide +kernel
theorem dX11_opens_5 : decode cX11_opens 5 = .ok (.iload_n 3, 1) := by decide +kernel
theorem dX11_opens_6 : decode cX11_opens 6 = .ok (.ifCond .ge 6, 3) := by decide +kernel
theorem dX11_opens_9 : decode cX11_opens 9 = .ok (.bipush (-3), 2) := by decide +kernel
theorem dX11_opens_11 : decode cX11_opens 11 = .ok (.ireturn, 1) := by decide +kernel
theorem dX11_opens_12 : decode cX11_opens 12 = .ok (.iload_n 3, 1) := by decide +kernel
theorem dX11_opens_13 : decode cX11_opens 13 = .ok (.invokestatic 36, 3) := by decide +kernel
theorem dX11_opens_16 : decode cX11_opens 16 = .ok (.istore 4, 2) := by decide +kernel
theorem dX11_opens_18 : decode cX11_opens 18 = .ok (.iconst 0, 1) := by decide +kernel
theorem dX11_opens_19 : decode cX11_opens 19 = .ok (.istore 5, 2) := by decide +kernel
theorem dX11_opens_21 : decode cX11_opens 21 = .ok (.iload 5, 2) := by decide +kernel
theorem dX11_opens_23 : decode cX11_opens 23 = .ok (.bipush 16, 2) := by decide +kernel
theorem dX11_opens_25 : decode cX11_opens 25 = .ok (.if_icmp .ge 20, 3) := by decide +kernel
theorem dX11_opens_28 : decode cX11_opens 28 = .ok (.aload_n 0, 1) := by decide +kernel
theorem dX11_opens_29 : decode cX11_opens 29 = .ok (.getfield 7, 3) := by decide +kernel
theorem dX11_opens_32 : decode cX11_opens 32 = .ok (.iload 4, 2) := by decide +kernel
theorem dX11_opens_34 : decode cX11_opens 34 = .ok (.iload 5, 2) := by decide +kernel
theorem dX11_opens_36 : decode cX11_opens 36 = .ok (.iadd, 1) := by decide +kernel
theorem dX11_opens_37 : decode cX11_opens 37 = .ok (.iconst 0, 1) := by decide +kernel
theorem dX11_opens_38 : decode cX11_opens 38 = .ok (.iastore, 1) := by decide +kernel
theorem dX11_opens_39 : decode cX11_opens 39 = .ok (.iinc 5 1, 3) := by decide +kernel
theorem dX11_opens_42 : decode cX11_opens 42 = .ok (.goto (-21), 3) := by decide +kernel
theorem dX11_opens_45 : decode cX11_opens 45 = .ok (.aload_n 0, 1) := by decide +kernel
theorem dX11_opens_46 : decode cX11_opens 46 = .ok (.getfield 7, 3) := by decide +kernel
theorem dX11_opens_49 : decode cX11_opens 49 = .ok (.iload 4, 2) := by decide +kernel
theorem dX11_opens_51 : decode cX11_opens 51 = .ok (.iconst 0, 1) := by decide +kernel
theorem dX11_opens_52 : decode cX11_opens 52 = .ok (.iadd, 1) := by decide +kernel
theorem dX11_opens_53 : decode cX11_opens 53 = .ok (.iconst 1, 1) := by decide +kernel
theorem dX11_opens_54 : decode cX11_opens 54 = .ok (.iastore, 1) := by decide +kernel
theorem dX11_opens_55 : decode cX11_opens 55 = .ok (.aload_n 0, 1) := by decide +kernel
theorem dX11_opens_56 : decode cX11_opens 56 = .ok (.getfield 7, 3) := by decide +kernel
theorem dX11_opens_59 : decode cX11_opens 59 = .ok (.iload 4, 2) := by decide +kernel
theorem dX11_opens_61 : decode cX11_opens 61 = .ok (.iconst 1, 1) := by decide +kernel
theorem dX11_opens_62 : decode cX11_opens 62 = .ok (.iadd, 1) := by decide +kernel
theorem dX11_opens_63 : decode cX11_opens 63 = .ok (.iload_n 1, 1) := by decide +kernel
theorem dX11_opens_64 : decode cX11_opens 64 = .ok (.iastore, 1) := by decide +kernel
theorem dX11_opens_65 : decode cX11_opens 65 = .ok (.aload_n 0, 1) := by decide +kernel
theorem dX11_opens_66 : decode cX11_opens 66 = .ok (.getfield 7, 3) := by decide +kernel
theorem dX11_opens_69 : decode cX11_opens 69 = .ok (.iload 4, 2) := by decide +kernel
theorem dX11_opens_71 : decode cX11_opens 71 = .ok (.iconst 2, 1) := by decide +kernel
theorem dX11_opens_72 : decode cX11_opens 72 = .ok (.iadd, 1) := by decide +kernel
theorem dX11_opens_73 : decode cX11_opens 73 = .ok (.iload_n 2, 1) := by decide +kernel
theorem dX11_opens_74 : decode cX11_opens 74 = .ok (.iastore, 1) := by decide +kernel
theorem dX11_opens_75 : decode cX11_opens 75 = .ok (.aload_n 0, 1) := by decide +kernel
theorem dX11_opens_76 : decode cX11_opens 76 = .ok (.getfield 7, 3) := by decide +kernel
theorem dX11_opens_79 : decode cX11_opens 79 = .ok (.iload 4, 2) := by decide +kernel
theorem dX11_opens_81 : decode cX11_opens 81 = .ok (.bipush 6, 2) := by decide +kernel
theorem dX11_opens_83 : decode cX11_opens 83 = .ok (.iadd, 1) := by decide +kernel
theorem dX11_opens_84 : decode cX11_opens 84 = .ok (.iconst 1, 1) := by decide +kernel
theorem dX11_opens_85 : decode cX11_opens 85 = .ok (.iastore, 1) := by decide +kernel
theorem dX11_opens_86 : decode cX11_opens 86 = .ok (.aload_n 0, 1) := by decide +kernel
theorem dX11_opens_87 : decode cX11_opens 87 = .ok (.getfield 7, 3) := by decide +kernel
theorem dX11_opens_90 : decode cX11_opens 90 = .ok (.iload 4, 2) := by decide +kernel
theorem dX11_opens_92 : decode cX11_opens 92 = .ok (.bipush 7, 2) := by decide +kernel
theorem dX11_opens_94 : decode cX11_opens 94 = .ok (.iadd, 1) := by decide +kernel
theorem dX11_opens_95 : decode cX11_opens 95 = .ok (.aload_n 0, 1) := by decide +kernel
theorem dX11_opens_96 : decode cX11_opens 96 = .ok (.getfield 7, 3) := by decide +kernel
theorem dX11_opens_99 : decode cX11_opens 99 = .ok (.iconst 2, 1) := by decide +kernel
theorem dX11_opens_100 : decode cX11_opens 100 = .ok (.iaload, 1) := by decide +kernel
theorem dX11_opens_101 : decode cX11_opens 101 = .ok (.iastore, 1) := by decide +kernel
theorem dX11_opens_102 : decode cX11_opens 102 = .ok (.aload_n 0, 1) := by decide +kernel
theorem dX11_opens_103 : decode cX11_opens 103 = .ok (.getfield 7, 3) := by decide +kernel
theorem dX11_opens_106 : decode cX11_opens 106 = .ok (.iload 4, 2) := by decide +kernel
theorem dX11_opens_108 : decode cX11_opens 108 = .ok (.bipush 8, 2) := by decide +kernel
theorem dX11_opens_110 : decode cX11_opens 110 = .ok (.iadd, 1) := by decide +kernel
theorem dX11_opens_111 : decode cX11_opens 111 = .ok (.aload_n 0, 1) := by decide +kernel
theorem dX11_opens_112 : decode cX11_opens 112 = .ok (.getfield 7, 3) := by decide +kernel
theorem dX11_opens_115 : decode cX11_opens 115 = .ok (.iconst 2, 1) := by decide +kernel
theorem dX11_opens_116 : decode cX11_opens 116 = .ok (.iaload, 1) := by decide +kernel
theorem dX11_opens_117 : decode cX11_opens 117 = .ok (.iastore, 1) := by decide +kernel
theorem dX11_opens_118 : decode cX11_opens 118 = .ok (.aload_n 0, 1) := by decide +kernel
theorem dX11_opens_119 : decode cX11_opens 119 = .ok (.getfield 7, 3) := by decide +kernel
theorem dX11_opens_122 : decode cX11_opens 122 = .ok (.iconst 3, 1) := by decide +kernel
theorem dX11_opens_123 : decode cX11_opens 123 = .ok (.dup2, 1) := by decide +kernel
theorem dX11_opens_124 : decode cX11_opens 124 = .ok (.iaload, 1) := by decide +kernel
theorem dX11_opens_125 : decode cX11_opens 125 = .ok (.iconst 1, 1) := by decide +kernel
theorem dX11_opens_126 : decode cX11_opens 126 = .ok (.iadd, 1) := by decide +kernel
theorem dX11_opens_127 : decode cX11_opens 127 = .ok (.iastore, 1) := by decide +kernel
theorem dX11_opens_128 : decode cX11_opens 128 = .ok (.aload_n 0, 1) := by decide +kernel
theorem dX11_opens_129 : decode cX11_opens 129 = .ok (.iload_n 3, 1) := by decide +kernel
theorem dX11_opens_130 : decode cX11_opens 130 = .ok (.invokevirtual 66, 3) := by decide +kernel
theorem dX11_opens_133 : decode cX11_opens 133 = .ok (.iload_n 3, 1) := by decide +kernel
theorem dX11_opens_134 : decode cX11_opens 134 = .ok (.ireturn, 1) := by decide +kernel
theorem dX11_alerts_0 : decode cX11_alerts 0 = .ok (.iload_n 1, 1) := by decide +kernel
theorem dX11_alerts_1 : decode cX11_alerts 1 = .ok (.iconst 0, 1) := by decide +kernel
theorem dX11_alerts_2 : decode cX11_alerts 2 = .ok (.bipush 19, 2) := by decide +kernel
theorem dX11_alerts_4 : decode cX11_alerts 4 = .ok (.invokestatic 32, 3) := by decide +kernel
theorem dX11_alerts_7 : decode cX11_alerts 7 = .ok (.ifCond .eq 12, 3) := by decide +kernel
theorem dX11_alerts_10 : decode cX11_alerts 10 = .ok (.iload_n 2, 1) := by decide +kernel
theorem dX11_alerts_11 : decode cX11_alerts 11 = .ok (.iconst 0, 1) := by decide +kernel
theorem dX11_alerts_12 : decode cX11_alerts 12 = .ok (.iconst 2, 1) := by decide +kernel
theorem dX11_alerts_13 : decode cX11_alerts 13 = .ok (.invokestatic 32, 3) := by decide +kernel
theorem dX11_alerts_16 : decode cX11_alerts 16 = .ok (.ifCond .ne 5, 3) := by decide +kernel
theorem dX11_alerts_19 : decode cX11_alerts 19 = .ok (.iconst (-1), 1) := by decide +kernel
theorem dX11_alerts_20 : decode cX11_alerts 20 = .ok (.ireturn, 1) := by decide +kernel
theorem dX11_alerts_21 : decode cX11_alerts 21 = .ok (.aload_n 0, 1) := by decide +kernel
theorem dX11_alerts_22 : decode cX11_alerts 22 = .ok (.iload_n 1, 1) := by decide +kernel
theorem dX11_alerts_23 : decode cX11_alerts 23 = .ok (.invokevirtual 99, 3) := by decide +kernel
theorem dX11_alerts_26 : decode cX11_alerts 26 = .ok (.istore_n 3, 1) := by decide +kernel
theorem dX11_alerts_27 : decode cX11_alerts 27 = .ok (.iload_n 3, 1) := by decide +kernel
theorem dX11_alerts_28 : decode cX11_alerts 28 = .ok (.ifCond .ge 10, 3) := by decide +kernel
theorem dX11_alerts_31 : decode cX11_alerts 31 = .ok (.aload_n 0, 1) := by decide +kernel
theorem dX11_alerts_32 : decode cX11_alerts 32 = .ok (.iload_n 1, 1) := by decide +kernel
theorem dX11_alerts_33 : decode cX11_alerts 33 = .ok (.iload_n 2, 1) := by decide +kernel
theorem dX11_alerts_34 : decode cX11_alerts 34 = .ok (.invokevirtual 102, 3) := by decide +kernel
theorem dX11_alerts_37 : decode cX11_alerts 37 = .ok (.ireturn, 1) := by decide +kernel
theorem dX11_alerts_38 : decode cX11_alerts 38 = .ok (.iload_n 3, 1) := by decide +kernel
theorem dX11_alerts_39 : decode cX11_alerts 39 = .ok (.invokestatic 36, 3) := by decide +kernel
theorem dX11_alerts_42 : decode cX11_alerts 42 = .ok (.istore 4, 2) := by decide +kernel
theorem dX11_alerts_44 : decode cX11_alerts 44 = .ok (.iload_n 2, 1) := by decide +kernel
theorem dX11_alerts_45 : decode cX11_alerts 45 = .ok (.aload_n 0, 1) := by decide +kernel
theorem dX11_alerts_46 : decode cX11_alerts 46 = .ok (.getfield 7, 3) := by decide +kernel
theorem dX11_alerts_49 : decode cX11_alerts 49 = .ok (.iload 4, 2) := by decide +kernel
theorem dX11_alerts_51 : decode cX11_alerts 51 = .ok (.iconst 2, 1) := by decide +kernel
theorem dX11_alerts_52 : decode cX11_alerts 52 = .ok (.iadd, 1) := by decide +kernel
theorem dX11_alerts_53 : decode cX11_alerts 53 = .ok (.iaload, 1) := by decide +kernel
theorem dX11_alerts_54 : decode cX11_alerts 54 = .ok (.if_icmp .le 7, 3) := by decide +kernel
theorem dX11_alerts_57 : decode cX11_alerts 57 = .ok (.iconst 1, 1) := by decide +kernel
theorem dX11_alerts_58 : decode cX11_alerts 58 = .ok (.goto 4, 3) := by decide +kernel
theorem dX11_alerts_61 : decode cX11_alerts 61 = .ok (.iconst 0, 1) := by decide +kernel
theorem dX11_alerts_62 : decode cX11_alerts 62 = .ok (.istore 5, 2) := by decide +kernel
theorem dX11_alerts_64 : decode cX11_alerts 64 = .ok (.aload_n 0, 1) := by decide +kernel
theorem dX11_alerts_65 : decode cX11_alerts 65 = .ok (.getfield 7, 3) := by decide +kernel
theorem dX11_alerts_68 : decode cX11_alerts 68 = .ok (.iload 4, 2) := by decide +kernel
theorem dX11_alerts_70 : decode cX11_alerts 70 = .ok (.iconst 2, 1) := by decide +kernel
theorem dX11_alerts_71 : decode cX11_alerts 71 = .ok (.iadd, 1) := by decide +kernel
theorem dX11_alerts_72 : decode cX11_alerts 72 = .ok (.iload 5, 2) := by decide +kernel
theorem dX11_alerts_74 : decode cX11_alerts 74 = .ok (.ifCond .eq 7, 3) := by decide +kernel
theorem dX11_alerts_77 : decode cX11_alerts 77 = .ok (.iload_n 2, 1) := by decide +kernel
theorem dX11_alerts_78 : decode cX11_alerts 78 = .ok (.goto 12, 3) := by decide +kernel
theorem dX11_alerts_81 : decode cX11_alerts 81 = .ok (.aload_n 0, 1) := by decide +kernel
theorem dX11_alerts_82 : decode cX11_alerts 82 = .ok (.getfield 7, 3) := by decide +kernel
theorem dX11_alerts_85 : decode cX11_alerts 85 = .ok (.iload 4, 2) := by decide +kernel
theorem dX11_alerts_87 : decode cX11_alerts 87 = .ok (.iconst 2, 1) := by decide +kernel
theorem dX11_alerts_88 : decode cX11_alerts 88 = .ok (.iadd, 1) := by decide +kernel
theorem dX11_alerts_89 : decode cX11_alerts 89 = .ok (.iaload, 1) := by decide +kernel
theorem dX11_alerts_90 : decode cX11_alerts 90 = .ok (.iastore, 1) := by decide +kernel
theorem dX11_alerts_91 : decode cX11_alerts 91 = .ok (.aload_n 0, 1) := by decide +kernel
theorem dX11_alerts_92 : decode cX11_alerts 92 = .ok (.getfield 7, 3) := by decide +kernel
theorem dX11_alerts_95 : decode cX11_alerts 95 = .ok (.iload 4, 2) := by decide +kernel
theorem dX11_alerts_97 : decode cX11_alerts 97 = .ok (.bipush 8, 2) := by decide +kernel
theorem dX11_alerts_99 : decode cX11_alerts 99 = .ok (.iadd, 1) := by decide +kernel
theorem dX11_alerts_100 : decode cX11_alerts 100 = .ok (.aload_n 0, 1) := by decide +kernel
theorem dX11_alerts_101 : decode cX11_alerts 101 = .ok (.getfield 7, 3) := by decide +kernel
theorem dX11_alerts_104 : decode cX11_alerts 104 = .ok (.iconst 2, 1) := by decide +kernel
theorem dX11_alerts_105 : decode cX11_alerts 105 = .ok (.iaload, 1) := by decide +kernel
theorem dX11_alerts_106 : decode cX11_alerts 106 = .ok (.iastore, 1) := by decide +kernel
theorem dX11_alerts_107 : decode cX11_alerts 107 = .ok (.aload_n 0, 1) := by decide +kernel
theorem dX11_alerts_108 : decode cX11_alerts 108 = .ok (.getfield 7, 3) := by decide +kernel
theorem dX11_alerts_111 : decode cX11_alerts 111 = .ok (.iload 4, 2) := by decide +kernel
theorem dX11_alerts_113 : decode cX11_alerts 113 = .ok (.bipush 6, 2) := by decide +kernel
theorem dX11_alerts_115 : decode cX11_alerts 115 = .ok (.iadd, 1) := by decide +kernel
theorem dX11_alerts_116 : decode cX11_alerts 116 = .ok (.dup2, 1) := by decide +kernel
theorem dX11_alerts_117 : decode cX11_alerts 117 = .ok (.iaload, 1) := by decide +kernel
theorem dX11_alerts_118 : decode cX11_alerts 118 = .ok (.iconst 1, 1) := by decide +kernel
theorem dX11_alerts_119 : decode cX11_alerts 119 = .ok (.iadd, 1) := by decide +kernel
theorem dX11_alerts_120 : decode cX11_alerts 120 = .ok (.iastore, 1) := by decide +kernel
theorem dX11_alerts_121 : decode cX11_alerts 121 = .ok (.aload_n 0, 1) := by decide +kernel
theorem dX11_alerts_122 : decode cX11_alerts 122 = .ok (.getfield 7, 3) := by decide +kernel
theorem dX11_alerts_125 : decode cX11_alerts 125 = .ok (.iconst 3, 1) := by decide +kernel
theorem dX11_alerts_126 : decode cX11_alerts 126 = .ok (.dup2, 1) := by decide +kernel
theorem dX11_alerts_127 : decode cX11_alerts 127 = .ok (.iaload, 1) := by decide +kernel
theorem dX11_alerts_128 : decode cX11_alerts 128 = .ok (.iconst 1, 1) := by decide +kernel
theorem dX11_alerts_129 : decode cX11_alerts 129 = .ok (.iadd, 1) := by decide +kernel
theorem dX11_alerts_130 : decode cX11_alerts 130 = .ok (.iastore, 1) := by decide +kernel
theorem dX11_alerts_131 : decode cX11_alerts 131 = .ok (.aload_n 0, 1) := by decide +kernel
theorem dX11_alerts_132 : decode cX11_alerts 132 = .ok (.getfield 7, 3) := by decide +kernel
theorem dX11_alerts_135 : decode cX11_alerts 135 = .ok (.iconst 4, 1) := by decide +kernel
theorem dX11_alerts_136 : decode cX11_alerts 136 = .ok (.dup2, 1) := by decide +kernel
theorem dX11_alerts_137 : decode cX11_alerts 137 = .ok (.iaload, 1) := by decide +kernel
theorem dX11_alerts_138 : decode cX11_alerts 138 = .ok (.iconst 1, 1) := by decide +kernel
theorem dX11_alerts_139 : decode cX11_alerts 139 = .ok (.iadd, 1) := by decide +kernel
theorem dX11_alerts_140 : decode cX11_alerts 140 = .ok (.iastore, 1) := by decide +kernel
theorem dX11_alerts_141 : decode cX11_alerts 141 = .ok (.iload 5, 2) := by decide +kernel
theorem dX11_alerts_143 : decode cX11_alerts 143 = .ok (.ifCond .eq 20, 3) := by decide +kernel
theorem dX11_alerts_146 : decode cX11_alerts 146 = .ok (.aload_n 0, 1) := by decide +kernel
theorem dX11_alerts_147 : decode cX11_alerts 147 = .ok (.getfield 7, 3) := by decide +kernel
theorem dX11_alerts_150 : decode cX11_alerts 150 = .ok (.iload 4, 2) := by decide +kernel
theorem dX11_alerts_152 : decode cX11_alerts 152 = .ok (.iconst 4, 1) := by decide +kernel
theorem dX11_alerts_153 : decode cX11_alerts 153 = .ok (.iadd, 1) := by decide +kernel
theorem dX11_alerts_154 : decode cX11_alerts 154 = .ok (.iaload, 1) := by decide +kernel
theorem dX11_alerts_155 : decode cX11_alerts 155 = .ok (.ifCond .ne 8, 3) := by decide +kernel
theorem dX11_alerts_158 : decode cX11_alerts 158 = .ok (.aload_n 0, 1) := by decide +kernel
theorem dX11_alerts_159 : decode cX11_alerts 159 = .ok (.iload_n 3, 1) := by decide +kernel
theorem dX11_alerts_160 : decode cX11_alerts 160 = .ok (.invokevirtual 66, 3) := by decide +kernel
theorem dX11_alerts_163 : decode cX11_alerts 163 = .ok (.iload_n 3, 1) := by decide +kernel
theorem dX11_alerts_164 : decode cX11_alerts 164 = .ok (.ireturn, 1) := by decide +kernel
theorem dX11_acknowledges_0 : decode cX11_acknowledges 0 = .ok (.aload_n 0, 1) := by decide +kernel
theorem dX11_acknowledges_1 : decode cX11_acknowledges 1 = .ok (.iload_n 1, 1) := by decide +kernel
theorem dX11_acknowledges_2 : decode cX11_acknowledges 2 = .ok (.invokevirtual 70, 3) := by decide +kernel
theorem dX11_acknowledges_5 : decode cX11_acknowledges 5 = .ok (.ifCond .ne 5, 3) := by decide +kernel
theorem dX11_acknowledges_8 : decode cX11_acknowledges 8 = .ok (.iconst (-1), 1) := by decide +kernel
theorem dX11_acknowledges_9 : decode cX11_acknowledges 9 = .ok (.ireturn, 1) := by decide +kernel
theorem dX11_acknowledges_10 : decode cX11_acknowledges 10 = .ok (.iload_n 1, 1) := by decide +kernel
theorem dX11_acknowledges_11 : decode cX11_acknowledges 11 = .ok (.invokestatic 36, 3) := by decide +kernel
theorem dX11_acknowledges_14 : decode cX11_acknowledges 14 = .ok (.istore_n 2, 1) := by decide +kernel
theorem dX11_acknowledges_15 : decode cX11_acknowledges 15 = .ok (.aload_n 0, 1) := by decide +kernel
theorem dX11_acknowledges_16 : decode cX11_acknowledges 16 = .ok (.getfield 7, 3) := by decide +kernel
theorem dX11_acknowledges_19 : decode cX11_acknowledges 19 = .ok (.iload_n 2, 1) := by decide +kernel
theorem dX11_acknowledges_20 : decode cX11_acknowledges 20 = .ok (.iconst 4, 1) := by decide +kernel
theorem dX11_acknowledges_21 : decode cX11_acknowledges 21 = .ok (.iadd, 1) := by decide +kernel
theorem dX11_acknowledges_22 : decode cX11_acknowledges 22 = .ok (.iaload, 1) := by decide +kernel
theorem dX11_acknowledges_23 : decode cX11_acknowledges 23 = .ok (.ifCond .eq 15, 3) := by decide +kernel
theorem dX11_acknowledges_26 : decode cX11_acknowledges 26 = .ok (.aload_n 0, 1) := by decide +kernel
theorem dX11_acknowledges_27 : decode cX11_acknowledges 27 = .ok (.getfield 7, 3) := by decide +kernel
theorem dX11_acknowledges_30 : decode cX11_acknowledges 30 = .ok (.iload_n 2, 1) := by decide +kernel
theorem dX11_acknowledges_31 : decode cX11_acknowledges 31 = .ok (.iconst 5, 1) := by decide +kernel
theorem dX11_acknowledges_32 : decode cX11_acknowledges 32 = .ok (.iadd, 1) := by decide +kernel
theorem dX11_acknowledges_33 : decode cX11_acknowledges 33 = .ok (.iaload, 1) := by decide +kernel
theorem dX11_acknowledges_34 : decode cX11_acknowledges 34 = .ok (.iconst 1, 1) := by decide +kernel
theorem dX11_acknowledges_35 : decode cX11_acknowledges 35 = .ok (.if_icmp .ne 6, 3) := by decide +kernel
theorem dX11_acknowledges_38 : decode cX11_acknowledges 38 = .ok (.bipush (-2), 2) := by decide +kernel
theorem dX11_acknowledges_40 : decode cX11_acknowledges 40 = .ok (.ireturn, 1) := by decide +kernel
theorem dX11_acknowledges_41 : decode cX11_acknowledges 41 = .ok (.aload_n 0, 1) := by decide +kernel
theorem dX11_acknowledges_42 : decode cX11_acknowledges 42 = .ok (.getfield 7, 3) := by decide +kernel
theorem dX11_acknowledges_45 : decode cX11_acknowledges 45 = .ok (.iconst 2, 1) := by decide +kernel
theorem dX11_acknowledges_46 : decode cX11_acknowledges 46 = .ok (.iaload, 1) := by decide +kernel
theorem dX11_acknowledges_47 : decode cX11_acknowledges 47 = .ok (.aload_n 0, 1) := by decide +kernel
theorem dX11_acknowledges_48 : decode cX11_acknowledges 48 = .ok (.getfield 7, 3) := by decide +kernel
theorem dX11_acknowledges_51 : decode cX11_acknowledges 51 = .ok (.iload_n 2, 1) := by decide +kernel
theorem dX11_acknowledges_52 : decode cX11_acknowledges 52 = .ok (.bipush 10, 2) := by decide +kernel
theorem dX11_acknowledges_54 : decode cX11_acknowledges 54 = .ok (.iadd, 1) := by decide +kernel
theorem dX11_acknowledges_55 : decode cX11_acknowledges 55 = .ok (.iaload, 1) := by decide +kernel
theorem dX11_acknowledges_56 : decode cX11_acknowledges 56 = .ok (.isub, 1) := by decide +kernel
theorem dX11_acknowledges_57 : decode cX11_acknowledges 57 = .ok (.istore_n 3, 1) := by decide +kernel
theorem dX11_acknowledges_58 : decode cX11_acknowledges 58 = .ok (.aload_n 0, 1) := by decide +kernel
theorem dX11_acknowledges_59 : decode cX11_acknowledges 59 = .ok (.getfield 7, 3) := by decide +kernel
theorem dX11_acknowledges_62 : decode cX11_acknowledges 62 = .ok (.iload_n 2, 1) := by decide +kernel
theorem dX11_acknowledges_63 : decode cX11_acknowledges 63 = .ok (.iconst 5, 1) := by decide +kernel
theorem dX11_acknowledges_64 : decode cX11_acknowledges 64 = .ok (.iadd, 1) := by decide +kernel
theorem dX11_acknowledges_65 : decode cX11_acknowledges 65 = .ok (.iconst 1, 1) := by decide +kernel
theorem dX11_acknowledges_66 : decode cX11_acknowledges 66 = .ok (.iastore, 1) := by decide +kernel
theorem dX11_acknowledges_67 : decode cX11_acknowledges 67 = .ok (.aload_n 0, 1) := by decide +kernel
theorem dX11_acknowledges_68 : decode cX11_acknowledges 68 = .ok (.getfield 7, 3) := by decide +kernel
theorem dX11_acknowledges_71 : decode cX11_acknowledges 71 = .ok (.bipush 11, 2) := by decide +kernel
theorem dX11_acknowledges_73 : decode cX11_acknowledges 73 = .ok (.dup2, 1) := by decide +kernel
theorem dX11_acknowledges_74 : decode cX11_acknowledges 74 = .ok (.iaload, 1) := by decide +kernel
theorem dX11_acknowledges_75 : decode cX11_acknowledges 75 = .ok (.iload_n 3, 1) := by decide +kernel
theorem dX11_acknowledges_76 : decode cX11_acknowledges 76 = .ok (.iadd, 1) := by decide +kernel
theorem dX11_acknowledges_77 : decode cX11_acknowledges 77 = .ok (.iastore, 1) := by decide +kernel
theorem dX11_acknowledges_78 : decode cX11_acknowledges 78 = .ok (.aload_n 0, 1) := by decide +kernel
theorem dX11_acknowledges_79 : decode cX11_acknowledges 79 = .ok (.getfield 7, 3) := by decide +kernel
theorem dX11_acknowledges_82 : decode cX11_acknowledges 82 = .ok (.bipush 12, 2) := by decide +kernel
theorem dX11_acknowledges_84 : decode cX11_acknowledges 84 = .ok (.dup2, 1) := by decide +kernel
theorem dX11_acknowledges_85 : decode cX11_acknowledges 85 = .ok (.iaload, 1) := by decide +kernel
theorem dX11_acknowledges_86 : decode cX11_acknowledges 86 = .ok (.iconst 1, 1) := by decide +kernel
theorem dX11_acknowledges_87 : decode cX11_acknowledges 87 = .ok (.iadd, 1) := by decide +kernel
theorem dX11_acknowledges_88 : decode cX11_acknowledges 88 = .ok (.iastore, 1) := by decide +kernel
theorem dX11_acknowledges_89 : decode cX11_acknowledges 89 = .ok (.iload_n 3, 1) := by decide +kernel
theorem dX11_acknowledges_90 : decode cX11_acknowledges 90 = .ok (.ireturn, 1) := by decide +kernel
theorem dX11_resolves_0 : decode cX11_resolves 0 = .ok (.aload_n 0, 1) := by decide +kernel
theorem dX11_resolves_1 : decode cX11_resolves 1 = .ok (.iload_n 1, 1) := by decide +kernel
theorem dX11_resolves_2 : decode cX11_resolves 2 = .ok (.invokevirtual 70, 3) := by decide +kernel
theorem dX11_resolves_5 : decode cX11_resolves 5 = .ok (.ifCond .ne 5, 3) := by decide +kernel
theorem dX11_resolves_8 : decode cX11_resolves 8 = .ok (.iconst (-1), 1) := by decide +kernel
theorem dX11_resolves_9 : decode cX11_resolves 9 = .ok (.ireturn, 1) := by decide +kernel
theorem dX11_resolves_10 : decode cX11_resolves 10 = .ok (.iload_n 1, 1) := by decide +kernel
theorem dX11_resolves_11 : decode cX11_resolves 11 = .ok (.invokestatic 36, 3) := by decide +kernel
theorem dX11_resolves_14 : decode cX11_resolves 14 = .ok (.istore_n 2, 1) := by decide +kernel
theorem dX11_resolves_15 : decode cX11_resolves 15 = .ok (.aload_n 0, 1) := by decide +kernel
theorem dX11_resolves_16 : decode cX11_resolves 16 = .ok (.getfield 7, 3) := by decide +kernel
theorem dX11_resolves_19 : decode cX11_resolves 19 = .ok (.iconst 2, 1) := by decide +kernel
theorem dX11_resolves_20 : decode cX11_resolves 20 = .ok (.iaload, 1) := by decide +kernel
theorem dX11_resolves_21 : decode cX11_resolves 21 = .ok (.aload_n 0, 1) := by decide +kernel
theorem dX11_resolves_22 : decode cX11_resolves 22 = .ok (.getfield 7, 3) := by decide +kernel
theorem dX11_resolves_25 : decode cX11_resolves 25 = .ok (.iload_n 2, 1) := by decide +kernel
theorem dX11_resolves_26 : decode cX11_resolves 26 = .ok (.bipush 7, 2) := by decide +kernel
theorem dX11_resolves_28 : decode cX11_resolves 28 = .ok (.iadd, 1) := by decide +kernel
theorem dX11_resolves_29 : decode cX11_resolves 29 = .ok (.iaload, 1) := by decide +kernel
theorem dX11_resolves_30 : decode cX11_resolves 30 = .ok (.isub, 1) := by decide +kernel
theorem dX11_resolves_31 : decode cX11_resolves 31 = .ok (.istore_n 3, 1) := by decide +kernel
theorem dX11_resolves_32 : decode cX11_resolves 32 = .ok (.aload_n 0, 1) := by decide +kernel
theorem dX11_resolves_33 : decode cX11_resolves 33 = .ok (.getfield 7, 3) := by decide +kernel
theorem dX11_resolves_36 : decode cX11_resolves 36 = .ok (.iload_n 2, 1) := by decide +kernel
theorem dX11_resolves_37 : decode cX11_resolves 37 = .ok (.iconst 4, 1) := by decide +kernel
theorem dX11_resolves_38 : decode cX11_resolves 38 = .ok (.iadd, 1) := by decide +kernel
theorem dX11_resolves_39 : decode cX11_resolves 39 = .ok (.iaload, 1) := by decide +kernel
theorem dX11_resolves_40 : decode cX11_resolves 40 = .ok (.ifCond .le 29, 3) := by decide +kernel
theorem dX11_resolves_43 : decode cX11_resolves 43 = .ok (.aload_n 0, 1) := by decide +kernel
theorem dX11_resolves_44 : decode cX11_resolves 44 = .ok (.getfield 7, 3) := by decide +kernel
theorem dX11_resolves_47 : decode cX11_resolves 47 = .ok (.bipush 16, 2) := by decide +kernel
theorem dX11_resolves_49 : decode cX11_resolves 49 = .ok (.iconst 5, 1) := by decide +kernel
theorem dX11_resolves_50 : decode cX11_resolves 50 = .ok (.aload_n 0, 1) := by decide +kernel
theorem dX11_resolves_51 : decode cX11_resolves 51 = .ok (.getfield 7, 3) := by decide +kernel
theorem dX11_resolves_54 : decode cX11_resolves 54 = .ok (.iload_n 2, 1) := by decide +kernel
theorem dX11_resolves_55 : decode cX11_resolves 55 = .ok (.iconst 4, 1) := by decide +kernel
theorem dX11_resolves_56 : decode cX11_resolves 56 = .ok (.iadd, 1) := by decide +kernel
theorem dX11_resolves_57 : decode cX11_resolves 57 = .ok (.iaload, 1) := by decide +kernel
theorem dX11_resolves_58 : decode cX11_resolves 58 = .ok (.iconst 1, 1) := by decide +kernel
theorem dX11_resolves_59 : decode cX11_resolves 59 = .ok (.isub, 1) := by decide +kernel
theorem dX11_resolves_60 : decode cX11_resolves 60 = .ok (.imul, 1) := by decide +kernel
theorem dX11_resolves_61 : decode cX11_resolves 61 = .ok (.iadd, 1) := by decide +kernel
theorem dX11_resolves_62 : decode cX11_resolves 62 = .ok (.iconst 4, 1) := by decide +kernel
theorem dX11_resolves_63 : decode cX11_resolves 63 = .ok (.iadd, 1) := by decide +kernel
theorem dX11_resolves_64 : decode cX11_resolves 64 = .ok (.dup2, 1) := by decide +kernel
theorem dX11_resolves_65 : decode cX11_resolves 65 = .ok (.iaload, 1) := by decide +kernel
theorem dX11_resolves_66 : decode cX11_resolves 66 = .ok (.iconst 1, 1) := by decide +kernel
theorem dX11_resolves_67 : decode cX11_resolves 67 = .ok (.iadd, 1) := by decide +kernel
theorem dX11_resolves_68 : decode cX11_resolves 68 = .ok (.iastore, 1) := by decide +kernel
theorem dX11_resolves_69 : decode cX11_resolves 69 = .ok (.aload_n 0, 1) := by decide +kernel
theorem dX11_resolves_70 : decode cX11_resolves 70 = .ok (.getfield 7, 3) := by decide +kernel
theorem dX11_resolves_73 : decode cX11_resolves 73 = .ok (.iload_n 2, 1) := by decide +kernel
theorem dX11_resolves_74 : decode cX11_resolves 74 = .ok (.iconst 0, 1) := by decide +kernel
theorem dX11_resolves_75 : decode cX11_resolves 75 = .ok (.iadd, 1) := by decide +kernel
theorem dX11_resolves_76 : decode cX11_resolves 76 = .ok (.iconst 0, 1) := by decide +kernel
theorem dX11_resolves_77 : decode cX11_resolves 77 = .ok (.iastore, 1) := by decide +kernel
theorem dX11_resolves_78 : decode cX11_resolves 78 = .ok (.aload_n 0, 1) := by decide +kernel
theorem dX11_resolves_79 : decode cX11_resolves 79 = .ok (.getfield 7, 3) := by decide +kernel
theorem dX11_resolves_82 : decode cX11_resolves 82 = .ok (.bipush 10, 2) := by decide +kernel
theorem dX11_resolves_84 : decode cX11_resolves 84 = .ok (.dup2, 1) := by decide +kernel
theorem dX11_resolves_85 : decode cX11_resolves 85 = .ok (.iaload, 1) := by decide +kernel
theorem dX11_resolves_86 : decode cX11_resolves 86 = .ok (.iload_n 3, 1) := by decide +kernel
theorem dX11_resolves_87 : decode cX11_resolves 87 = .ok (.iadd, 1) := by decide +kernel
theorem dX11_resolves_88 : decode cX11_resolves 88 = .ok (.iastore, 1) := by decide +kernel
theorem dX11_resolves_89 : decode cX11_resolves 89 = .ok (.aload_n 0, 1) := by decide +kernel
theorem dX11_resolves_90 : decode cX11_resolves 90 = .ok (.getfield 7, 3) := by decide +kernel
theorem dX11_resolves_93 : decode cX11_resolves 93 = .ok (.bipush 6, 2) := by decide +kernel
theorem dX11_resolves_95 : decode cX11_resolves 95 = .ok (.dup2, 1) := by decide +kernel
theorem dX11_resolves_96 : decode cX11_resolves 96 = .ok (.iaload, 1) := by decide +kernel
theorem dX11_resolves_97 : decode cX11_resolves 97 = .ok (.iconst 1, 1) := by decide +kernel
theorem dX11_resolves_98 : decode cX11_resolves 98 = .ok (.iadd, 1) := by decide +kernel
theorem dX11_resolves_99 : decode cX11_resolves 99 = .ok (.iastore, 1) := by decide +kernel
theorem dX11_resolves_100 : decode cX11_resolves 100 = .ok (.iload_n 3, 1) := by decide +kernel
theorem dX11_resolves_101 : decode cX11_resolves 101 = .ok (.ireturn, 1) := by decide +kernel
theorem dX11_passes_0 : decode cX11_passes 0 = .ok (.iload_n 1, 1) := by decide +kernel
theorem dX11_passes_1 : decode cX11_passes 1 = .ok (.iconst 1, 1) := by decide +kernel
theorem dX11_passes_2 : decode cX11_passes 2 = .ok (.sipush 600, 3) := by decide +kernel
theorem dX11_passes_5 : decode cX11_passes 5 = .ok (.invokestatic 32, 3) := by decide +kernel
theorem dX11_passes_8 : decode cX11_passes 8 = .ok (.ifCond .ne 5, 3) := by decide +kernel
theorem dX11_passes_11 : decode cX11_passes 11 = .ok (.iconst (-1), 1) := by decide +kernel
theorem dX11_passes_12 : decode cX11_passes 12 = .ok (.ireturn, 1) := by decide +kernel
theorem dX11_passes_13 : decode cX11_passes 13 = .ok (.aload_n 0, 1) := by decide +kernel
theorem dX11_passes_14 : decode cX11_passes 14 = .ok (.getfield 7, 3) := by decide +kernel
theorem dX11_passes_17 : decode cX11_passes 17 = .ok (.iconst 2, 1) := by decide +kernel
theorem dX11_passes_18 : decode cX11_passes 18 = .ok (.iaload, 1) := by decide +kernel
theorem dX11_passes_19 : decode cX11_passes 19 = .ok (.iload_n 1, 1) := by decide +kernel
theorem dX11_passes_20 : decode cX11_passes 20 = .ok (.iadd, 1) := by decide +kernel
theorem dX11_passes_21 : decode cX11_passes 21 = .ok (.sipush 30000, 3) := by decide +kernel
theorem dX11_passes_24 : decode cX11_passes 24 = .ok (.if_icmp .le 6, 3) := by decide +kernel
theorem dX11_passes_27 : decode cX11_passes 27 = .ok (.bipush (-3), 2) := by decide +kernel
theorem dX11_passes_29 : decode cX11_passes 29 = .ok (.ireturn, 1) := by decide +kernel
theorem dX11_passes_30 : decode cX11_passes 30 = .ok (.aload_n 0, 1) := by decide +kernel
theorem dX11_passes_31 : decode cX11_passes 31 = .ok (.getfield 7, 3) := by decide +kernel
theorem dX11_passes_34 : decode cX11_passes 34 = .ok (.iconst 5, 1) := by decide +kernel
theorem dX11_passes_35 : decode cX11_passes 35 = .ok (.iaload, 1) := by decide +kernel
theorem dX11_passes_36 : decode cX11_passes 36 = .ok (.istore_n 2, 1) := by decide +kernel
theorem dX11_passes_37 : decode cX11_passes 37 = .ok (.iconst 0, 1) := by decide +kernel
theorem dX11_passes_38 : decode cX11_passes 38 = .ok (.istore_n 3, 1) := by decide +kernel
theorem dX11_passes_39 : decode cX11_passes 39 = .ok (.iload_n 3, 1) := by decide +kernel
theorem dX11_passes_40 : decode cX11_passes 40 = .ok (.iload_n 1, 1) := by decide +kernel
theorem dX11_passes_41 : decode cX11_passes 41 = .ok (.if_icmp .ge 13, 3) := by decide +kernel
theorem dX11_passes_44 : decode cX11_passes 44 = .ok (.aload_n 0, 1) := by decide +kernel
theorem dX11_passes_45 : decode cX11_passes 45 = .ok (.invokevirtual 105, 3) := by decide +kernel
theorem dX11_passes_48 : decode cX11_passes 48 = .ok (.iinc 3 1, 3) := by decide +kernel
theorem dX11_passes_51 : decode cX11_passes 51 = .ok (.goto (-12), 3) := by decide +kernel
theorem dX11_passes_54 : decode cX11_passes 54 = .ok (.aload_n 0, 1) := by decide +kernel
theorem dX11_passes_55 : decode cX11_passes 55 = .ok (.getfield 7, 3) := by decide +kernel
theorem dX11_passes_58 : decode cX11_passes 58 = .ok (.iconst 5, 1) := by decide +kernel
theorem dX11_passes_59 : decode cX11_passes 59 = .ok (.iaload, 1) := by decide +kernel
theorem dX11_passes_60 : decode cX11_passes 60 = .ok (.iload_n 2, 1) := by decide +kernel
theorem dX11_passes_61 : decode cX11_passes 61 = .ok (.isub, 1) := by decide +kernel
theorem dX11_passes_62 : decode cX11_passes 62 = .ok (.ireturn, 1) := by decide +kernel
theorem dX11_sets_0 : decode cX11_sets 0 = .ok (.iload_n 1, 1) := by decide +kernel
theorem dX11_sets_1 : decode cX11_sets 1 = .ok (.iconst 0, 1) := by decide +kernel
theorem dX11_sets_2 : decode cX11_sets 2 = .ok (.iconst 1, 1) := by decide +kernel
theorem dX11_sets_3 : decode cX11_sets 3 = .ok (.invokestatic 32, 3) := by decide +kernel
theorem dX11_sets_6 : decode cX11_sets 6 = .ok (.ifCond .eq 31, 3) := by decide +kernel
theorem dX11_sets_9 : decode cX11_sets 9 = .ok (.iload_n 1, 1) := by decide +kernel
theorem dX11_sets_10 : decode cX11_sets 10 = .ok (.ifCond .ne 16, 3) := by decide +kernel
theorem dX11_sets_13 : decode cX11_sets 13 = .ok (.iload_n 2, 1) := by decide +kernel
theorem dX11_sets_14 : decode cX11_sets 14 = .ok (.iconst 1, 1) := by decide +kernel
theorem dX11_sets_15 : decode cX11_sets 15 = .ok (.bipush 120, 2) := by decide +kernel
theorem dX11_sets_17 : decode cX11_sets 17 = .ok (.invokestatic 32, 3) := by decide +kernel
theorem dX11_sets_20 : decode cX11_sets 20 = .ok (.ifCond .eq 17, 3) := by decide +kernel
theorem dX11_sets_23 : decode cX11_sets 23 = .ok (.goto 16, 3) := by decide +kernel
theorem dX11_sets_26 : decode cX11_sets 26 = .ok (.iload_n 2, 1) := by decide +kernel
theorem dX11_sets_27 : decode cX11_sets 27 = .ok (.iconst 0, 1) := by decide +kernel
theorem dX11_sets_28 : decode cX11_sets 28 = .ok (.sipush 600, 3) := by decide +kernel
theorem dX11_sets_31 : decode cX11_sets 31 = .ok (.invokestatic 32, 3) := by decide +kernel
theorem dX11_sets_34 : decode cX11_sets 34 = .ok (.ifCond .ne 5, 3) := by decide +kernel
theorem dX11_sets_37 : decode cX11_sets 37 = .ok (.iconst (-1), 1) := by decide +kernel
theorem dX11_sets_38 : decode cX11_sets 38 = .ok (.ireturn, 1) := by decide +kernel
theorem dX11_sets_39 : decode cX11_sets 39 = .ok (.aload_n 0, 1) := by decide +kernel
theorem dX11_sets_40 : decode cX11_sets 40 = .ok (.getfield 7, 3) := by decide +kernel
theorem dX11_sets_43 : decode cX11_sets 43 = .ok (.bipush 13, 2) := by decide +kernel
theorem dX11_sets_45 : decode cX11_sets 45 = .ok (.iload_n 1, 1) := by decide +kernel
theorem dX11_sets_46 : decode cX11_sets 46 = .ok (.iadd, 1) := by decide +kernel
theorem dX11_sets_47 : decode cX11_sets 47 = .ok (.iaload, 1) := by decide +kernel
theorem dX11_sets_48 : decode cX11_sets 48 = .ok (.istore_n 3, 1) := by decide +kernel
theorem dX11_sets_49 : decode cX11_sets 49 = .ok (.aload_n 0, 1) := by decide +kernel
theorem dX11_sets_50 : decode cX11_sets 50 = .ok (.getfield 7, 3) := by decide +kernel
theorem dX11_sets_53 : decode cX11_sets 53 = .ok (.bipush 13, 2) := by decide +kernel
theorem dX11_sets_55 : decode cX11_sets 55 = .ok (.iload_n 1, 1) := by decide +kernel
theorem dX11_sets_56 : decode cX11_sets 56 = .ok (.iadd, 1) := by decide +kernel
theorem dX11_sets_57 : decode cX11_sets 57 = .ok (.iload_n 2, 1) := by decide +kernel
theorem dX11_sets_58 : decode cX11_sets 58 = .ok (.iastore, 1) := by decide +kernel
theorem dX11_sets_59 : decode cX11_sets 59 = .ok (.iload_n 3, 1) := by decide +kernel
theorem dX11_sets_60 : decode cX11_sets 60 = .ok (.ireturn, 1) := by decide +kernel
theorem dX11_person_0 : decode cX11_person 0 = .ok (.aload_n 0, 1) := by decide +kernel
theorem dX11_person_1 : decode cX11_person 1 = .ok (.invokevirtual 108, 3) := by decide +kernel
theorem dX11_person_4 : decode cX11_person 4 = .ok (.aload_n 0, 1) := by decide +kernel
theorem dX11_person_5 : decode cX11_person 5 = .ok (.aload_n 0, 1) := by decide +kernel
theorem dX11_person_6 : decode cX11_person 6 = .ok (.invokevirtual 111, 3) := by decide +kernel
theorem dX11_person_9 : decode cX11_person 9 = .ok (.invokevirtual 114, 3) := by decide +kernel
theorem dX11_person_12 : decode cX11_person 12 = .ok (.ireturn, 1) := by decide +kernel
theorem dX11_region_0 : decode cX11_region 0 = .ok (.aload_n 0, 1) := by decide +kernel
theorem dX11_region_1 : decode cX11_region 1 = .ok (.invokevirtual 108, 3) := by decide +kernel
theorem dX11_region_4 : decode cX11_region 4 = .ok (.aload_n 0, 1) := by decide +kernel
theorem dX11_region_5 : decode cX11_region 5 = .ok (.aload_n 0, 1) := by decide +kernel
theorem dX11_region_6 : decode cX11_region 6 = .ok (.iload_n 1, 1) := by decide +kernel
theorem dX11_region_7 : decode cX11_region 7 = .ok (.iload_n 2, 1) := by decide +kernel
theorem dX11_region_8 : decode cX11_region 8 = .ok (.iload_n 3, 1) := by decide +kernel
theorem dX11_region_9 : decode cX11_region 9 = .ok (.invokevirtual 117, 3) := by decide +kernel
theorem dX11_region_12 : decode cX11_region 12 = .ok (.invokevirtual 114, 3) := by decide +kernel
theorem dX11_region_15 : decode cX11_region 15 = .ok (.ireturn, 1) := by decide +kernel
theorem dX11_join_0 : decode cX11_join 0 = .ok (.aload_n 0, 1) := by decide +kernel
theorem dX11_join_1 : decode cX11_join 1 = .ok (.invokevirtual 108, 3) := by decide +kernel
theorem dX11_join_4 : decode cX11_join 4 = .ok (.aload_n 0, 1) := by decide +kernel
theorem dX11_join_5 : decode cX11_join 5 = .ok (.aload_n 0, 1) := by decide +kernel
theorem dX11_join_6 : decode cX11_join 6 = .ok (.iload_n 1, 1) := by decide +kernel
theorem dX11_join_7 : decode cX11_join 7 = .ok (.iload_n 2, 1) := by decide +kernel
theorem dX11_join_8 : decode cX11_join 8 = .ok (.invokevirtual 121, 3) := by decide +kernel
theorem dX11_join_11 : decode cX11_join 11 = .ok (.invokevirtual 114, 3) := by decide +kernel
theorem dX11_join_14 : decode cX11_join 14 = .ok (.ireturn, 1) := by decide +kernel
theorem dX11_leave_0 : decode cX11_leave 0 = .ok (.aload_n 0, 1) := by decide +kernel
theorem dX11_leave_1 : decode cX11_leave 1 = .ok (.invokevirtual 108, 3) := by decide +kernel
theorem dX11_leave_4 : decode cX11_leave 4 = .ok (.aload_n 0, 1) := by decide +kernel
theorem dX11_leave_5 : decode cX11_leave 5 = .ok (.aload_n 0, 1) := by decide +kernel
theorem dX11_leave_6 : decode cX11_leave 6 = .ok (.iload_n 1, 1) := by decide +kernel
theorem dX11_leave_7 : decode cX11_leave 7 = .ok (.iload_n 2, 1) := by decide +kernel
theorem dX11_leave_8 : decode cX11_leave 8 = .ok (.invokevirtual 124, 3) := by decide +kernel
theorem dX11_leave_11 : decode cX11_leave 11 = .ok (.invokevirtual 114, 3) := by decide +kernel
theorem dX11_leave_14 : decode cX11_leave 14 = .ok (.ireturn, 1) := by decide +kernel
theorem dX11_quiet_0 : decode cX11_quiet 0 = .ok (.aload_n 0, 1) := by decide +kernel
theorem dX11_quiet_1 : decode cX11_quiet 1 = .ok (.invokevirtual 108, 3) := by decide +kernel
theorem dX11_quiet_4 : decode cX11_quiet 4 = .ok (.aload_n 0, 1) := by decide +kernel
theorem dX11_quiet_5 : decode cX11_quiet 5 = .ok (.aload_n 0, 1) := by decide +kernel
theorem dX11_quiet_6 : decode cX11_quiet 6 = .ok (.iload_n 1, 1) := by decide +kernel
theorem dX11_quiet_7 : decode cX11_quiet 7 = .ok (.iload_n 2, 1) := by decide +kernel
theorem dX11_quiet_8 : decode cX11_quiet 8 = .ok (.iload_n 3, 1) := by decide +kernel
theorem dX11_quiet_9 : decode cX11_quiet 9 = .ok (.invokevirtual 127, 3) := by decide +kernel
theorem dX11_quiet_12 : decode cX11_quiet 12 = .ok (.invokevirtual 114, 3) := by decide +kernel
theorem dX11_quiet_15 : decode cX11_quiet 15 = .ok (.ireturn, 1) := by decide +kernel
theorem dX11_except_0 : decode cX11_except 0 = .ok (.aload_n 0, 1) := by decide +kernel
theorem dX11_except_1 : decode cX11_except 1 = .ok (.invokevirtual 108, 3) := by decide +kernel
theorem dX11_except_4 : decode cX11_except 4 = .ok (.aload_n 0, 1) := by decide +kernel
theorem dX11_except_5 : decode cX11_except 5 = .ok (.aload_n 0, 1) := by decide +kernel
theorem dX11_except_6 : decode cX11_except 6 = .ok (.iload_n 1, 1) := by decide +kernel
theorem dX11_except_7 : decode cX11_except 7 = .ok (.iload_n 2, 1) := by decide +kernel
theorem dX11_except_8 : decode cX11_except 8 = .ok (.invokevirtual 130, 3) := by decide +kernel
theorem dX11_except_11 : decode cX11_except 11 = .ok (.invokevirtual 114, 3) := by decide +kernel
theorem dX11_except_14 : decode cX11_except 14 = .ok (.ireturn, 1) := by decide +kernel
theorem dX11_override_0 : decode cX11_override 0 = .ok (.aload_n 0, 1) := by decide +kernel
theorem dX11_override_1 : decode cX11_override 1 = .ok (.invokevirtual 108, 3) := by decide +kernel
theorem dX11_override_4 : decode cX11_override 4 = .ok (.aload_n 0, 1) := by decide +kernel
theorem dX11_override_5 : decode cX11_override 5 = .ok (.aload_n 0, 1) := by decide +kernel
theorem dX11_override_6 : decode cX11_override 6 = .ok (.iload_n 1, 1) := by decide +kernel
theorem dX11_override_7 : decode cX11_override 7 = .ok (.iload_n 2, 1) := by decide +kernel
theorem dX11_override_8 : decode cX11_override 8 = .ok (.iload_n 3, 1) := by decide +kernel
theorem dX11_override_9 : decode cX11_override 9 = .ok (.invokevirtual 133, 3) := by decide +kernel
theorem dX11_override_12 : decode cX11_override 12 = .ok (.invokevirtual 114, 3) := by decide +kernel
theorem dX11_override_15 : decode cX11_override 15 = .ok (.ireturn, 1) := by decide +kernel
theorem dX11_alert_0 : decode cX11_alert 0 = .ok (.aload_n 0, 1) := by decide +kernel
theorem dX11_alert_1 : decode cX11_alert 1 = .ok (.invokevirtual 108, 3) := by decide +kernel
theorem dX11_alert_4 : decode cX11_alert 4 = .ok (.aload_n 0, 1) := by decide +kernel
theorem dX11_alert_5 : decode cX11_alert 5 = .ok (.aload_n 0, 1) := by decide +kernel
theorem dX11_alert_6 : decode cX11_alert 6 = .ok (.iload_n 1, 1) := by decide +kernel
theorem dX11_alert_7 : decode cX11_alert 7 = .ok (.iload_n 2, 1) := by decide +kernel
theorem dX11_alert_8 : decode cX11_alert 8 = .ok (.invokevirtual 136, 3) := by decide +kernel
theorem dX11_alert_11 : decode cX11_alert 11 = .ok (.invokevirtual 114, 3) := by decide +kernel
theorem dX11_alert_14 : decode cX11_alert 14 = .ok (.ireturn, 1) := by decide +kernel
theorem dX11_acknowledge_0 : decode cX11_acknowledge 0 = .ok (.aload_n 0, 1) := by decide +kernel
theorem dX11_acknowledge_1 : decode cX11_acknowledge 1 = .ok (.invokevirtual 108, 3) := by decide +kernel
theorem dX11_acknowledge_4 : decode cX11_acknowledge 4 = .ok (.aload_n 0, 1) := by decide +kernel
theorem dX11_acknowledge_5 : decode cX11_acknowledge 5 = .ok (.aload_n 0, 1) := by decide +kernel
theorem dX11_acknowledge_6 : decode cX11_acknowledge 6 = .ok (.iload_n 1, 1) := by decide +kernel
theorem dX11_acknowledge_7 : decode cX11_acknowledge 7 = .ok (.invokevirtual 139, 3) := by decide +kernel
theorem dX11_acknowledge_10 : decode cX11_acknowledge 10 = .ok (.invokevirtual 114, 3) := by decide +kernel
theorem dX11_acknowledge_13 : decode cX11_acknowledge 13 = .ok (.ireturn, 1) := by decide +kernel
theorem dX11_resolve_0 : decode cX11_resolve 0 = .ok (.aload_n 0, 1) := by decide +kernel
theorem dX11_resolve_1 : decode cX11_resolve 1 = .ok (.invokevirtual 108, 3) := by decide +kernel
theorem dX11_resolve_4 : decode cX11_resolve 4 = .ok (.aload_n 0, 1) := by decide +kernel
theorem dX11_resolve_5 : decode cX11_resolve 5 = .ok (.aload_n 0, 1) := by decide +kernel
theorem dX11_resolve_6 : decode cX11_resolve 6 = .ok (.iload_n 1, 1) := by decide +kernel
theorem dX11_resolve_7 : decode cX11_resolve 7 = .ok (.invokevirtual 142, 3) := by decide +kernel
theorem dX11_resolve_10 : decode cX11_resolve 10 = .ok (.invokevirtual 114, 3) := by decide +kernel
theorem dX11_resolve_13 : decode cX11_resolve 13 = .ok (.ireturn, 1) := by decide +kernel
theorem dX11_pass_0 : decode cX11_pass 0 = .ok (.aload_n 0, 1) := by decide +kernel
theorem dX11_pass_1 : decode cX11_pass 1 = .ok (.invokevirtual 108, 3) := by decide +kernel
theorem dX11_pass_4 : decode cX11_pass 4 = .ok (.aload_n 0, 1) := by decide +kernel
theorem dX11_pass_5 : decode cX11_pass 5 = .ok (.aload_n 0, 1) := by decide +kernel
theorem dX11_pass_6 : decode cX11_pass 6 = .ok (.iload_n 1, 1) := by decide +kernel
theorem dX11_pass_7 : decode cX11_pass 7 = .ok (.invokevirtual 145, 3) := by decide +kernel
theorem dX11_pass_10 : decode cX11_pass 10 = .ok (.invokevirtual 114, 3) := by decide +kernel
theorem dX11_pass_13 : decode cX11_pass 13 = .ok (.ireturn, 1) := by decide +kernel
theorem dX11_set_0 : decode cX11_set 0 = .ok (.aload_n 0, 1) := by decide +kernel
theorem dX11_set_1 : decode cX11_set 1 = .ok (.invokevirtual 108, 3) := by decide +kernel
theorem dX11_set_4 : decode cX11_set 4 = .ok (.aload_n 0, 1) := by decide +kernel
theorem dX11_set_5 : decode cX11_set 5 = .ok (.aload_n 0, 1) := by decide +kernel
theorem dX11_set_6 : decode cX11_set 6 = .ok (.iload_n 1, 1) := by decide +kernel
theorem dX11_set_7 : decode cX11_set 7 = .ok (.iload_n 2, 1) := by decide +kernel
theorem dX11_set_8 : decode cX11_set 8 = .ok (.invokevirtual 148, 3) := by decide +kernel
theorem dX11_set_11 : decode cX11_set 11 = .ok (.invokevirtual 114, 3) := by decide +kernel
theorem dX11_set_14 : decode cX11_set 14 = .ok (.ireturn, 1) := by decide +kernel
theorem dX11_rotaAt_0 : decode cX11_rotaAt 0 = .ok (.aload_n 0, 1) := by decide +kernel
theorem dX11_rotaAt_1 : decode cX11_rotaAt 1 = .ok (.iload_n 1, 1) := by decide +kernel
theorem dX11_rotaAt_2 : decode cX11_rotaAt 2 = .ok (.invokevirtual 77, 3) := by decide +kernel
theorem dX11_rotaAt_5 : decode cX11_rotaAt 5 = .ok (.ifCond .eq 7, 3) := by decide +kernel
theorem dX11_rotaAt_8 : decode cX11_rotaAt 8 = .ok (.iload_n 2, 1) := by decide +kernel
theorem dX11_rotaAt_9 : decode cX11_rotaAt 9 = .ok (.ifCond .ge 5, 3) := by decide +kernel
theorem dX11_rotaAt_12 : decode cX11_rotaAt 12 = .ok (.iconst (-1), 1) := by decide +kernel
theorem dX11_rotaAt_13 : decode cX11_rotaAt 13 = .ok (.ireturn, 1) := by decide +kernel
theorem dX11_rotaAt_14 : decode cX11_rotaAt 14 = .ok (.iload_n 2, 1) := by decide +kernel
theorem dX11_rotaAt_15 : decode cX11_rotaAt 15 = .ok (.aload_n 0, 1) := by decide +kernel
theorem dX11_rotaAt_16 : decode cX11_rotaAt 16 = .ok (.iload_n 1, 1) := by decide +kernel
theorem dX11_rotaAt_17 : decode cX11_rotaAt 17 = .ok (.iconst 3, 1) := by decide +kernel
theorem dX11_rotaAt_18 : decode cX11_rotaAt 18 = .ok (.invokevirtual 40, 3) := by decide +kernel
theorem dX11_rotaAt_21 : decode cX11_rotaAt 21 = .ok (.if_icmp .ge 14, 3) := by decide +kernel
theorem dX11_rotaAt_24 : decode cX11_rotaAt 24 = .ok (.aload_n 0, 1) := by decide +kernel
theorem dX11_rotaAt_25 : decode cX11_rotaAt 25 = .ok (.iload_n 1, 1) := by decide +kernel
theorem dX11_rotaAt_26 : decode cX11_rotaAt 26 = .ok (.iconst 4, 1) := by decide +kernel
theorem dX11_rotaAt_27 : decode cX11_rotaAt 27 = .ok (.iload_n 2, 1) := by decide +kernel
theorem dX11_rotaAt_28 : decode cX11_rotaAt 28 = .ok (.iadd, 1) := by decide +kernel
theorem dX11_rotaAt_29 : decode cX11_rotaAt 29 = .ok (.invokevirtual 40, 3) := by decide +kernel
theorem dX11_rotaAt_32 : decode cX11_rotaAt 32 = .ok (.goto 5, 3) := by decide +kernel
theorem dX11_rotaAt_35 : decode cX11_rotaAt 35 = .ok (.bipush (-4), 2) := by decide +kernel
theorem dX11_rotaAt_37 : decode cX11_rotaAt 37 = .ok (.ireturn, 1) := by decide +kernel
theorem dX11_ownedBy_0 : decode cX11_ownedBy 0 = .ok (.iconst 0, 1) := by decide +kernel
theorem dX11_ownedBy_1 : decode cX11_ownedBy 1 = .ok (.istore_n 3, 1) := by decide +kernel
theorem dX11_ownedBy_2 : decode cX11_ownedBy 2 = .ok (.iconst 0, 1) := by decide +kernel
theorem dX11_ownedBy_3 : decode cX11_ownedBy 3 = .ok (.istore 4, 2) := by decide +kernel
theorem dX11_ownedBy_5 : decode cX11_ownedBy 5 = .ok (.iload 4, 2) := by decide +kernel
theorem dX11_ownedBy_7 : decode cX11_ownedBy 7 = .ok (.bipush 8, 2) := by decide +kernel
theorem dX11_ownedBy_9 : decode cX11_ownedBy 9 = .ok (.if_icmp .ge 65, 3) := by decide +kernel
theorem dX11_ownedBy_12 : decode cX11_ownedBy 12 = .ok (.iload 4, 2) := by decide +kernel
theorem dX11_ownedBy_14 : decode cX11_ownedBy 14 = .ok (.invokestatic 36, 3) := by decide +kernel
theorem dX11_ownedBy_17 : decode cX11_ownedBy 17 = .ok (.istore 5, 2) := by decide +kernel
theorem dX11_ownedBy_19 : decode cX11_ownedBy 19 = .ok (.iload_n 3, 1) := by decide +kernel
theorem dX11_ownedBy_20 : decode cX11_ownedBy 20 = .ok (.aload_n 0, 1) := by decide +kernel
theorem dX11_ownedBy_21 : decode cX11_ownedBy 21 = .ok (.iload 4, 2) := by decide +kernel
theorem dX11_ownedBy_23 : decode cX11_ownedBy 23 = .ok (.invokevirtual 70, 3) := by decide +kernel
theorem dX11_ownedBy_26 : decode cX11_ownedBy 26 = .ok (.ifCond .eq 39, 3) := by decide +kernel
theorem dX11_ownedBy_29 : decode cX11_ownedBy 29 = .ok (.aload_n 0, 1) := by decide +kernel
theorem dX11_ownedBy_30 : decode cX11_ownedBy 30 = .ok (.getfield 7, 3) := by decide +kernel
theorem dX11_ownedBy_33 : decode cX11_ownedBy 33 = .ok (.iload 5, 2) := by decide +kernel
theorem dX11_ownedBy_35 : decode cX11_ownedBy 35 = .ok (.iconst 4, 1) := by decide +kernel
theorem dX11_ownedBy_36 : decode cX11_ownedBy 36 = .ok (.iadd, 1) := by decide +kernel
theorem dX11_ownedBy_37 : decode cX11_ownedBy 37 = .ok (.iaload, 1) := by decide +kernel
theorem dX11_ownedBy_38 : decode cX11_ownedBy 38 = .ok (.iload_n 1, 1) := by decide +kernel
theorem dX11_ownedBy_39 : decode cX11_ownedBy 39 = .ok (.iconst 1, 1) := by decide +kernel
theorem dX11_ownedBy_40 : decode cX11_ownedBy 40 = .ok (.iadd, 1) := by decide +kernel
theorem dX11_ownedBy_41 : decode cX11_ownedBy 41 = .ok (.if_icmp .ne 24, 3) := by decide +kernel
theorem dX11_ownedBy_44 : decode cX11_ownedBy 44 = .ok (.iload_n 2, 1) := by decide +kernel
theorem dX11_ownedBy_45 : decode cX11_ownedBy 45 = .ok (.ifCond .eq 16, 3) := by decide +kernel
theorem dX11_ownedBy_48 : decode cX11_ownedBy 48 = .ok (.aload_n 0, 1) := by decide +kernel
theorem dX11_ownedBy_49 : decode cX11_ownedBy 49 = .ok (.getfield 7, 3) := by decide +kernel
theorem dX11_ownedBy_52 : decode cX11_ownedBy 52 = .ok (.iload 5, 2) := by decide +kernel
theorem dX11_ownedBy_54 : decode cX11_ownedBy 54 = .ok (.iconst 5, 1) := by decide +kernel
theorem dX11_ownedBy_55 : decode cX11_ownedBy 55 = .ok (.iadd, 1) := by decide +kernel
theorem dX11_ownedBy_56 : decode cX11_ownedBy 56 = .ok (.iaload, 1) := by decide +kernel
theorem dX11_ownedBy_57 : decode cX11_ownedBy 57 = .ok (.iconst 1, 1) := by decide +kernel
theorem dX11_ownedBy_58 : decode cX11_ownedBy 58 = .ok (.if_icmp .ne 7, 3) := by decide +kernel
theorem dX11_ownedBy_61 : decode cX11_ownedBy 61 = .ok (.iconst 1, 1) := by decide +kernel
theorem dX11_ownedBy_62 : decode cX11_ownedBy 62 = .ok (.goto 4, 3) := by decide +kernel
theorem dX11_ownedBy_65 : decode cX11_ownedBy 65 = .ok (.iconst 0, 1) := by decide +kernel
theorem dX11_ownedBy_66 : decode cX11_ownedBy 66 = .ok (.iadd, 1) := by decide +kernel
theorem dX11_ownedBy_67 : decode cX11_ownedBy 67 = .ok (.istore_n 3, 1) := by decide +kernel
theorem dX11_ownedBy_68 : decode cX11_ownedBy 68 = .ok (.iinc 4 1, 3) := by decide +kernel
theorem dX11_ownedBy_71 : decode cX11_ownedBy 71 = .ok (.goto (-66), 3) := by decide +kernel
theorem dX11_ownedBy_74 : decode cX11_ownedBy 74 = .ok (.iload_n 3, 1) := by decide +kernel
theorem dX11_ownedBy_75 : decode cX11_ownedBy 75 = .ok (.ireturn, 1) := by decide +kernel
theorem dX11_rotasOf_0 : decode cX11_rotasOf 0 = .ok (.iconst 0, 1) := by decide +kernel
theorem dX11_rotasOf_1 : decode cX11_rotasOf 1 = .ok (.istore_n 2, 1) := by decide +kernel
theorem dX11_rotasOf_2 : decode cX11_rotasOf 2 = .ok (.iconst 0, 1) := by decide +kernel
theorem dX11_rotasOf_3 : decode cX11_rotasOf 3 = .ok (.istore_n 3, 1) := by decide +kernel
theorem dX11_rotasOf_4 : decode cX11_rotasOf 4 = .ok (.iload_n 3, 1) := by decide +kernel
theorem dX11_rotasOf_5 : decode cX11_rotasOf 5 = .ok (.aload_n 0, 1) := by decide +kernel
theorem dX11_rotasOf_6 : decode cX11_rotasOf 6 = .ok (.getfield 7, 3) := by decide +kernel
theorem dX11_rotasOf_9 : decode cX11_rotasOf 9 = .ok (.iconst 1, 1) := by decide +kernel
theorem dX11_rotasOf_10 : decode cX11_rotasOf 10 = .ok (.iaload, 1) := by decide +kernel
theorem dX11_rotasOf_11 : decode cX11_rotasOf 11 = .ok (.if_icmp .ge 28, 3) := by decide +kernel
theorem dX11_rotasOf_14 : decode cX11_rotasOf 14 = .ok (.iload_n 2, 1) := by decide +kernel
theorem dX11_rotasOf_15 : decode cX11_rotasOf 15 = .ok (.aload_n 0, 1) := by decide +kernel
theorem dX11_rotasOf_16 : decode cX11_rotasOf 16 = .ok (.iload_n 3, 1) := by decide +kernel
theorem dX11_rotasOf_17 : decode cX11_rotasOf 17 = .ok (.iload_n 1, 1) := by decide +kernel
theorem dX11_rotasOf_18 : decode cX11_rotasOf 18 = .ok (.invokevirtual 83, 3) := by decide +kernel
theorem dX11_rotasOf_21 : decode cX11_rotasOf 21 = .ok (.ifCond .lt 9, 3) := by decide +kernel
theorem dX11_rotasOf_24 : decode cX11_rotasOf 24 = .ok (.iconst 1, 1) := by decide +kernel
theorem dX11_rotasOf_25 : decode cX11_rotasOf 25 = .ok (.iload_n 3, 1) := by decide +kernel
theorem dX11_rotasOf_26 : decode cX11_rotasOf 26 = .ok (.ishl, 1) := by decide +kernel
theorem dX11_rotasOf_27 : decode cX11_rotasOf 27 = .ok (.goto 4, 3) := by decide +kernel
theorem dX11_rotasOf_30 : decode cX11_rotasOf 30 = .ok (.iconst 0, 1) := by decide +kernel
theorem dX11_rotasOf_31 : decode cX11_rotasOf 31 = .ok (.ior, 1) := by decide +kernel
theorem dX11_rotasOf_32 : decode cX11_rotasOf 32 = .ok (.istore_n 2, 1) := by decide +kernel
theorem dX11_rotasOf_33 : decode cX11_rotasOf 33 = .ok (.iinc 3 1, 3) := by decide +kernel
theorem dX11_rotasOf_36 : decode cX11_rotasOf 36 = .ok (.goto (-32), 3) := by decide +kernel
theorem dX11_rotasOf_39 : decode cX11_rotasOf 39 = .ok (.iload_n 2, 1) := by decide +kernel
theorem dX11_rotasOf_40 : decode cX11_rotasOf 40 = .ok (.ireturn, 1) := by decide +kernel
theorem dX11_personOf_0 : decode cX11_personOf 0 = .ok (.aload_n 0, 1) := by decide +kernel
theorem dX11_personOf_1 : decode cX11_personOf 1 = .ok (.iload_n 1, 1) := by decide +kernel
theorem dX11_personOf_2 : decode cX11_personOf 2 = .ok (.invokevirtual 80, 3) := by decide +kernel
theorem dX11_personOf_5 : decode cX11_personOf 5 = .ok (.ifCond .eq 13, 3) := by decide +kernel
theorem dX11_personOf_8 : decode cX11_personOf 8 = .ok (.iload_n 2, 1) := by decide +kernel
theorem dX11_personOf_9 : decode cX11_personOf 9 = .ok (.iconst 0, 1) := by decide +kernel
theorem dX11_personOf_10 : decode cX11_personOf 10 = .ok (.bipush 6, 2) := by decide +kernel
theorem dX11_personOf_12 : decode cX11_personOf 12 = .ok (.invokestatic 32, 3) := by decide +kernel
theorem dX11_personOf_15 : decode cX11_personOf 15 = .ok (.ifCond .ne 5, 3) := by decide +kernel
theorem dX11_personOf_18 : decode cX11_personOf 18 = .ok (.iconst (-1), 1) := by decide +kernel
theorem dX11_personOf_19 : decode cX11_personOf 19 = .ok (.ireturn, 1) := by decide +kernel
theorem dX11_personOf_20 : decode cX11_personOf 20 = .ok (.iload_n 2, 1) := by decide +kernel
theorem dX11_personOf_21 : decode cX11_personOf 21 = .ok (.tableswitch 95 0 5 #[39, 46, 46, 62, 69, 75], 39) := by decide +kernel
theorem dX11_personOf_60 : decode cX11_personOf 60 = .ok (.aload_n 0, 1) := by decide +kernel
theorem dX11_personOf_61 : decode cX11_personOf 61 = .ok (.iload_n 1, 1) := by decide +kernel
theorem dX11_personOf_62 : decode cX11_personOf 62 = .ok (.iconst 3, 1) := by decide +kernel
theorem dX11_personOf_63 : decode cX11_personOf 63 = .ok (.invokevirtual 54, 3) := by decide +kernel
theorem dX11_personOf_66 : decode cX11_personOf 66 = .ok (.ireturn, 1) := by decide +kernel
theorem dX11_personOf_67 : decode cX11_personOf 67 = .ok (.aload_n 0, 1) := by decide +kernel
theorem dX11_personOf_68 : decode cX11_personOf 68 = .ok (.iload_n 1, 1) := by decide +kernel
theorem dX11_personOf_69 : decode cX11_personOf 69 = .ok (.iload_n 2, 1) := by decide +kernel
theorem dX11_personOf_70 : decode cX11_personOf 70 = .ok (.iconst 2, 1) := by decide +kernel
theorem dX11_personOf_71 : decode cX11_personOf 71 = .ok (.if_icmp .ne 7, 3) := by decide +kernel
theorem dX11_personOf_74 : decode cX11_personOf 74 = .ok (.iconst 1, 1) := by decide +kernel
theorem dX11_personOf_75 : decode cX11_personOf 75 = .ok (.goto 4, 3) := by decide +kernel
theorem dX11_personOf_78 : decode cX11_personOf 78 = .ok (.iconst 0, 1) := by decide +kernel
theorem dX11_personOf_79 : decode cX11_personOf 79 = .ok (.invokevirtual 151, 3) := by decide +kernel
theorem dX11_personOf_82 : decode cX11_personOf 82 = .ok (.ireturn, 1) := by decide +kernel
theorem dX11_personOf_83 : decode cX11_personOf 83 = .ok (.aload_n 0, 1) := by decide +kernel
theorem dX11_personOf_84 : decode cX11_personOf 84 = .ok (.iload_n 1, 1) := by decide +kernel
theorem dX11_personOf_85 : decode cX11_personOf 85 = .ok (.iconst 4, 1) := by decide +kernel
theorem dX11_personOf_86 : decode cX11_personOf 86 = .ok (.invokevirtual 54, 3) := by decide +kernel
theorem dX11_personOf_89 : decode cX11_personOf 89 = .ok (.ireturn, 1) := by decide +kernel
theorem dX11_personOf_90 : decode cX11_personOf 90 = .ok (.aload_n 0, 1) := by decide +kernel
theorem dX11_personOf_91 : decode cX11_personOf 91 = .ok (.iload_n 1, 1) := by decide +kernel
theorem dX11_personOf_92 : decode cX11_personOf 92 = .ok (.invokevirtual 155, 3) := by decide +kernel
theorem dX11_personOf_95 : decode cX11_personOf 95 = .ok (.ireturn, 1) := by decide +kernel
theorem dX11_personOf_96 : decode cX11_personOf 96 = .ok (.aload_n 0, 1) := by decide +kernel
theorem dX11_personOf_97 : decode cX11_personOf 97 = .ok (.iload_n 1, 1) := by decide +kernel
theorem dX11_personOf_98 : decode cX11_personOf 98 = .ok (.aload_n 0, 1) := by decide +kernel
theorem dX11_personOf_99 : decode cX11_personOf 99 = .ok (.getfield 7, 3) := by decide +kernel
theorem dX11_personOf_102 : decode cX11_personOf 102 = .ok (.iconst 2, 1) := by decide +kernel
theorem dX11_personOf_103 : decode cX11_personOf 103 = .ok (.iaload, 1) := by decide +kernel
theorem dX11_personOf_104 : decode cX11_personOf 104 = .ok (.invokevirtual 60, 3) := by decide +kernel
theorem dX11_personOf_107 : decode cX11_personOf 107 = .ok (.ifCond .eq 7, 3) := by decide +kernel
theorem dX11_personOf_110 : decode cX11_personOf 110 = .ok (.iconst 1, 1) := by decide +kernel
theorem dX11_personOf_111 : decode cX11_personOf 111 = .ok (.goto 4, 3) := by decide +kernel
theorem dX11_personOf_114 : decode cX11_personOf 114 = .ok (.iconst 0, 1) := by decide +kernel
theorem dX11_personOf_115 : decode cX11_personOf 115 = .ok (.ireturn, 1) := by decide +kernel
theorem dX11_personOf_116 : decode cX11_personOf 116 = .ok (.aload_n 0, 1) := by decide +kernel
theorem dX11_personOf_117 : decode cX11_personOf 117 = .ok (.iload_n 1, 1) := by decide +kernel
theorem dX11_personOf_118 : decode cX11_personOf 118 = .ok (.iconst 2, 1) := by decide +kernel
theorem dX11_personOf_119 : decode cX11_personOf 119 = .ok (.invokevirtual 54, 3) := by decide +kernel
theorem dX11_personOf_122 : decode cX11_personOf 122 = .ok (.ireturn, 1) := by decide +kernel
theorem dX11_incidentOf_0 : decode cX11_incidentOf 0 = .ok (.aload_n 0, 1) := by decide +kernel
theorem dX11_incidentOf_1 : decode cX11_incidentOf 1 = .ok (.iload_n 1, 1) := by decide +kernel
theorem dX11_incidentOf_2 : decode cX11_incidentOf 2 = .ok (.invokevirtual 70, 3) := by decide +kernel
theorem dX11_incidentOf_5 : decode cX11_incidentOf 5 = .ok (.ifCond .eq 13, 3) := by decide +kernel
theorem dX11_incidentOf_8 : decode cX11_incidentOf 8 = .ok (.iload_n 2, 1) := by decide +kernel
theorem dX11_incidentOf_9 : decode cX11_incidentOf 9 = .ok (.iconst 0, 1) := by decide +kernel
theorem dX11_incidentOf_10 : decode cX11_incidentOf 10 = .ok (.bipush 11, 2) := by decide +kernel
theorem dX11_incidentOf_12 : decode cX11_incidentOf 12 = .ok (.invokestatic 32, 3) := by decide +kernel
theorem dX11_incidentOf_15 : decode cX11_incidentOf 15 = .ok (.ifCond .ne 5, 3) := by decide +kernel
theorem dX11_incidentOf_18 : decode cX11_incidentOf 18 = .ok (.iconst (-1), 1) := by decide +kernel
theorem dX11_incidentOf_19 : decode cX11_incidentOf 19 = .ok (.ireturn, 1) := by decide +kernel
theorem dX11_incidentOf_20 : decode cX11_incidentOf 20 = .ok (.iload_n 1, 1) := by decide +kernel
theorem dX11_incidentOf_21 : decode cX11_incidentOf 21 = .ok (.invokestatic 36, 3) := by decide +kernel
theorem dX11_incidentOf_24 : decode cX11_incidentOf 24 = .ok (.istore_n 3, 1) := by decide +kernel
theorem dX11_incidentOf_25 : decode cX11_incidentOf 25 = .ok (.iload_n 2, 1) := by decide +kernel
theorem dX11_incidentOf_26 : decode cX11_incidentOf 26 = .ok (.tableswitch 124 3 11 #[50, 124, 124, 124, 124, 124, 77, 104, 114], 50) := by decide +kernel
theorem dX11_incidentOf_76 : decode cX11_incidentOf 76 = .ok (.aload_n 0, 1) := by decide +kernel
theorem dX11_incidentOf_77 : decode cX11_incidentOf 77 = .ok (.getfield 7, 3) := by decide +kernel
theorem dX11_incidentOf_80 : decode cX11_incidentOf 80 = .ok (.iload_n 3, 1) := by decide +kernel
theorem dX11_incidentOf_81 : decode cX11_incidentOf 81 = .ok (.iconst 4, 1) := by decide +kernel
theorem dX11_incidentOf_82 : decode cX11_incidentOf 82 = .ok (.iadd, 1) := by decide +kernel
theorem dX11_incidentOf_83 : decode cX11_incidentOf 83 = .ok (.iaload, 1) := by decide +kernel
theorem dX11_incidentOf_84 : decode cX11_incidentOf 84 = .ok (.ifCond .ne 8, 3) := by decide +kernel
theorem dX11_incidentOf_87 : decode cX11_incidentOf 87 = .ok (.bipush (-4), 2) := by decide +kernel
theorem dX11_incidentOf_89 : decode cX11_incidentOf 89 = .ok (.goto 13, 3) := by decide +kernel
theorem dX11_incidentOf_92 : decode cX11_incidentOf 92 = .ok (.aload_n 0, 1) := by decide +kernel
theorem dX11_incidentOf_93 : decode cX11_incidentOf 93 = .ok (.getfield 7, 3) := by decide +kernel
theorem dX11_incidentOf_96 : decode cX11_incidentOf 96 = .ok (.iload_n 3, 1) := by decide +kernel
theorem dX11_incidentOf_97 : decode cX11_incidentOf 97 = .ok (.iconst 4, 1) := by decide +kernel
theorem dX11_incidentOf_98 : decode cX11_incidentOf 98 = .ok (.iadd, 1) := by decide +kernel
theorem dX11_incidentOf_99 : decode cX11_incidentOf 99 = .ok (.iaload, 1) := by decide +kernel
theorem dX11_incidentOf_100 : decode cX11_incidentOf 100 = .ok (.iconst 1, 1) := by decide +kernel
theorem dX11_incidentOf_101 : decode cX11_incidentOf 101 = .ok (.isub, 1) := by decide +kernel
theorem dX11_incidentOf_102 : decode cX11_incidentOf 102 = .ok (.ireturn, 1) := by decide +kernel
theorem dX11_incidentOf_103 : decode cX11_incidentOf 103 = .ok (.aload_n 0, 1) := by decide +kernel
theorem dX11_incidentOf_104 : decode cX11_incidentOf 104 = .ok (.getfield 7, 3) := by decide +kernel
theorem dX11_incidentOf_107 : decode cX11_incidentOf 107 = .ok (.iload_n 3, 1) := by decide +kernel
theorem dX11_incidentOf_108 : decode cX11_incidentOf 108 = .ok (.bipush 14, 2) := by decide +kernel
theorem dX11_incidentOf_110 : decode cX11_incidentOf 110 = .ok (.iadd, 1) := by decide +kernel
theorem dX11_incidentOf_111 : decode cX11_incidentOf 111 = .ok (.iaload, 1) := by decide +kernel
theorem dX11_incidentOf_112 : decode cX11_incidentOf 112 = .ok (.ifCond .ne 8, 3) := by decide +kernel
theorem dX11_incidentOf_115 : decode cX11_incidentOf 115 = .ok (.bipush (-4), 2) := by decide +kernel
theorem dX11_incidentOf_117 : decode cX11_incidentOf 117 = .ok (.goto 12, 3) := by decide +kernel
theorem dX11_incidentOf_120 : decode cX11_incidentOf 120 = .ok (.aload_n 0, 1) := by decide +kernel
theorem dX11_incidentOf_121 : decode cX11_incidentOf 121 = .ok (.getfield 7, 3) := by decide +kernel
theorem dX11_incidentOf_124 : decode cX11_incidentOf 124 = .ok (.iload_n 3, 1) := by decide +kernel
theorem dX11_incidentOf_125 : decode cX11_incidentOf 125 = .ok (.bipush 10, 2) := by decide +kernel
theorem dX11_incidentOf_127 : decode cX11_incidentOf 127 = .ok (.iadd, 1) := by decide +kernel
theorem dX11_incidentOf_128 : decode cX11_incidentOf 128 = .ok (.iaload, 1) := by decide +kernel
theorem dX11_incidentOf_129 : decode cX11_incidentOf 129 = .ok (.ireturn, 1) := by decide +kernel
theorem dX11_incidentOf_130 : decode cX11_incidentOf 130 = .ok (.aload_n 0, 1) := by decide +kernel
theorem dX11_incidentOf_131 : decode cX11_incidentOf 131 = .ok (.getfield 7, 3) := by decide +kernel
theorem dX11_incidentOf_134 : decode cX11_incidentOf 134 = .ok (.iload_n 3, 1) := by decide +kernel
theorem dX11_incidentOf_135 : decode cX11_incidentOf 135 = .ok (.bipush 12, 2) := by decide +kernel
theorem dX11_incidentOf_137 : decode cX11_incidentOf 137 = .ok (.iadd, 1) := by decide +kernel
theorem dX11_incidentOf_138 : decode cX11_incidentOf 138 = .ok (.iaload, 1) := by decide +kernel
theorem dX11_incidentOf_139 : decode cX11_incidentOf 139 = .ok (.ireturn, 1) := by decide +kernel
theorem dX11_incidentOf_140 : decode cX11_incidentOf 140 = .ok (.aload_n 0, 1) := by decide +kernel
theorem dX11_incidentOf_141 : decode cX11_incidentOf 141 = .ok (.getfield 7, 3) := by decide +kernel
theorem dX11_incidentOf_144 : decode cX11_incidentOf 144 = .ok (.iload_n 3, 1) := by decide +kernel
theorem dX11_incidentOf_145 : decode cX11_incidentOf 145 = .ok (.bipush 13, 2) := by decide +kernel
theorem dX11_incidentOf_147 : decode cX11_incidentOf 147 = .ok (.iadd, 1) := by decide +kernel
theorem dX11_incidentOf_148 : decode cX11_incidentOf 148 = .ok (.iaload, 1) := by decide +kernel
theorem dX11_incidentOf_149 : decode cX11_incidentOf 149 = .ok (.ireturn, 1) := by decide +kernel
theorem dX11_incidentOf_150 : decode cX11_incidentOf 150 = .ok (.aload_n 0, 1) := by decide +kernel
theorem dX11_incidentOf_151 : decode cX11_incidentOf 151 = .ok (.getfield 7, 3) := by decide +kernel
theorem dX11_incidentOf_154 : decode cX11_incidentOf 154 = .ok (.iload_n 3, 1) := by decide +kernel
theorem dX11_incidentOf_155 : decode cX11_incidentOf 155 = .ok (.iconst 1, 1) := by decide +kernel
theorem dX11_incidentOf_156 : decode cX11_incidentOf 156 = .ok (.iadd, 1) := by decide +kernel
theorem dX11_incidentOf_157 : decode cX11_incidentOf 157 = .ok (.iload_n 2, 1) := by decide +kernel
theorem dX11_incidentOf_158 : decode cX11_incidentOf 158 = .ok (.iadd, 1) := by decide +kernel
theorem dX11_incidentOf_159 : decode cX11_incidentOf 159 = .ok (.iaload, 1) := by decide +kernel
theorem dX11_incidentOf_160 : decode cX11_incidentOf 160 = .ok (.ireturn, 1) := by decide +kernel
theorem dX11_openOnes_0 : decode cX11_openOnes 0 = .ok (.iconst 0, 1) := by decide +kernel
theorem dX11_openOnes_1 : decode cX11_openOnes 1 = .ok (.istore_n 2, 1) := by decide +kernel
theorem dX11_openOnes_2 : decode cX11_openOnes 2 = .ok (.iconst 0, 1) := by decide +kernel
theorem dX11_openOnes_3 : decode cX11_openOnes 3 = .ok (.istore_n 3, 1) := by decide +kernel
theorem dX11_openOnes_4 : decode cX11_openOnes 4 = .ok (.iload_n 3, 1) := by decide +kernel
theorem dX11_openOnes_5 : decode cX11_openOnes 5 = .ok (.bipush 8, 2) := by decide +kernel
theorem dX11_openOnes_7 : decode cX11_openOnes 7 = .ok (.if_icmp .ge 71, 3) := by decide +kernel
theorem dX11_openOnes_10 : decode cX11_openOnes 10 = .ok (.iload_n 3, 1) := by decide +kernel
theorem dX11_openOnes_11 : decode cX11_openOnes 11 = .ok (.invokestatic 36, 3) := by decide +kernel
theorem dX11_openOnes_14 : decode cX11_openOnes 14 = .ok (.istore 4, 2) := by decide +kernel
theorem dX11_openOnes_16 : decode cX11_openOnes 16 = .ok (.iload_n 2, 1) := by decide +kernel
theorem dX11_openOnes_17 : decode cX11_openOnes 17 = .ok (.aload_n 0, 1) := by decide +kernel
theorem dX11_openOnes_18 : decode cX11_openOnes 18 = .ok (.iload_n 3, 1) := by decide +kernel
theorem dX11_openOnes_19 : decode cX11_openOnes 19 = .ok (.invokevirtual 70, 3) := by decide +kernel
theorem dX11_openOnes_22 : decode cX11_openOnes 22 = .ok (.ifCond .eq 47, 3) := by decide +kernel
theorem dX11_openOnes_25 : decode cX11_openOnes 25 = .ok (.iload_n 1, 1) := by decide +kernel
theorem dX11_openOnes_26 : decode cX11_openOnes 26 = .ok (.iconst 3, 1) := by decide +kernel
theorem dX11_openOnes_27 : decode cX11_openOnes 27 = .ok (.if_icmp .eq 38, 3) := by decide +kernel
theorem dX11_openOnes_30 : decode cX11_openOnes 30 = .ok (.iload_n 1, 1) := by decide +kernel
theorem dX11_openOnes_31 : decode cX11_openOnes 31 = .ok (.iconst 4, 1) := by decide +kernel
theorem dX11_openOnes_32 : decode cX11_openOnes 32 = .ok (.if_icmp .ne 15, 3) := by decide +kernel
theorem dX11_openOnes_35 : decode cX11_openOnes 35 = .ok (.aload_n 0, 1) := by decide +kernel
theorem dX11_openOnes_36 : decode cX11_openOnes 36 = .ok (.getfield 7, 3) := by decide +kernel
theorem dX11_openOnes_39 : decode cX11_openOnes 39 = .ok (.iload 4, 2) := by decide +kernel
theorem dX11_openOnes_41 : decode cX11_openOnes 41 = .ok (.iconst 4, 1) := by decide +kernel
theorem dX11_openOnes_42 : decode cX11_openOnes 42 = .ok (.iadd, 1) := by decide +kernel
theorem dX11_openOnes_43 : decode cX11_openOnes 43 = .ok (.iaload, 1) := by decide +kernel
theorem dX11_openOnes_44 : decode cX11_openOnes 44 = .ok (.ifCond .eq 21, 3) := by decide +kernel
theorem dX11_openOnes_47 : decode cX11_openOnes 47 = .ok (.iload_n 1, 1) := by decide +kernel
theorem dX11_openOnes_48 : decode cX11_openOnes 48 = .ok (.iconst 5, 1) := by decide +kernel
theorem dX11_openOnes_49 : decode cX11_openOnes 49 = .ok (.if_icmp .ne 20, 3) := by decide +kernel
theorem dX11_openOnes_52 : decode cX11_openOnes 52 = .ok (.aload_n 0, 1) := by decide +kernel
theorem dX11_openOnes_53 : decode cX11_openOnes 53 = .ok (.getfield 7, 3) := by decide +kernel
theorem dX11_openOnes_56 : decode cX11_openOnes 56 = .ok (.iload 4, 2) := by decide +kernel
theorem dX11_openOnes_58 : decode cX11_openOnes 58 = .ok (.iconst 5, 1) := by decide +kernel
theorem dX11_openOnes_59 : decode cX11_openOnes 59 = .ok (.iadd, 1) := by decide +kernel
theorem dX11_openOnes_60 : decode cX11_openOnes 60 = .ok (.iaload, 1) := by decide +kernel
theorem dX11_openOnes_61 : decode cX11_openOnes 61 = .ok (.iconst 1, 1) := by decide +kernel
theorem dX11_openOnes_62 : decode cX11_openOnes 62 = .ok (.if_icmp .ne 7, 3) := by decide +kernel
theorem dX11_openOnes_65 : decode cX11_openOnes 65 = .ok (.iconst 1, 1) := by decide +kernel
theorem dX11_openOnes_66 : decode cX11_openOnes 66 = .ok (.goto 4, 3) := by decide +kernel
theorem dX11_openOnes_69 : decode cX11_openOnes 69 = .ok (.iconst 0, 1) := by decide +kernel
theorem dX11_openOnes_70 : decode cX11_openOnes 70 = .ok (.iadd, 1) := by decide +kernel
theorem dX11_openOnes_71 : decode cX11_openOnes 71 = .ok (.istore_n 2, 1) := by decide +kernel
theorem dX11_openOnes_72 : decode cX11_openOnes 72 = .ok (.iinc 3 1, 3) := by decide +kernel
theorem dX11_openOnes_75 : decode cX11_openOnes 75 = .ok (.goto (-71), 3) := by decide +kernel
theorem dX11_openOnes_78 : decode cX11_openOnes 78 = .ok (.iload_n 2, 1) := by decide +kernel
theorem dX11_openOnes_79 : decode cX11_openOnes 79 = .ok (.ireturn, 1) := by decide +kernel
theorem dX11_count_0 : decode cX11_count 0 = .ok (.iload_n 1, 1) := by decide +kernel
theorem dX11_count_1 : decode cX11_count 1 = .ok (.tableswitch 156 0 21 #[103, 103, 103, 110, 110, 110, 116, 116, 116, 116, 116, 116, 116, 128, 133, 138, 156, 156, 156, 156, 143, 143], 103) := by decide +kernel
theorem dX11_count_104 : decode cX11_count 104 = .ok (.aload_n 0, 1) := by decide +kernel
theorem dX11_count_105 : decode cX11_count 105 = .ok (.getfield 7, 3) := by decide +kernel
theorem dX11_count_108 : decode cX11_count 108 = .ok (.iload_n 1, 1) := by decide +kernel
theorem dX11_count_109 : decode cX11_count 109 = .ok (.iaload, 1) := by decide +kernel
theorem dX11_count_110 : decode cX11_count 110 = .ok (.ireturn, 1) := by decide +kernel
theorem dX11_count_111 : decode cX11_count 111 = .ok (.aload_n 0, 1) := by decide +kernel
theorem dX11_count_112 : decode cX11_count 112 = .ok (.iload_n 1, 1) := by decide +kernel
theorem dX11_count_113 : decode cX11_count 113 = .ok (.invokevirtual 158, 3) := by decide +kernel
theorem dX11_count_116 : decode cX11_count 116 = .ok (.ireturn, 1) := by decide +kernel
theorem dX11_count_117 : decode cX11_count 117 = .ok (.aload_n 0, 1) := by decide +kernel
theorem dX11_count_118 : decode cX11_count 118 = .ok (.getfield 7, 3) := by decide +kernel
theorem dX11_count_121 : decode cX11_count 121 = .ok (.iconst 3, 1) := by decide +kernel
theorem dX11_count_122 : decode cX11_count 122 = .ok (.iload_n 1, 1) := by decide +kernel
theorem dX11_count_123 : decode cX11_count 123 = .ok (.iadd, 1) := by decide +kernel
theorem dX11_count_124 : decode cX11_count 124 = .ok (.bipush 6, 2) := by decide +kernel
theorem dX11_count_126 : decode cX11_count 126 = .ok (.isub, 1) := by decide +kernel
theorem dX11_count_127 : decode cX11_count 127 = .ok (.iaload, 1) := by decide +kernel
theorem dX11_count_128 : decode cX11_count 128 = .ok (.ireturn, 1) := by decide +kernel
theorem dX11_count_129 : decode cX11_count 129 = .ok (.aload_n 0, 1) := by decide +kernel
theorem dX11_count_130 : decode cX11_count 130 = .ok (.invokevirtual 89, 3) := by decide +kernel
theorem dX11_count_133 : decode cX11_count 133 = .ok (.ireturn, 1) := by decide +kernel
theorem dX11_count_134 : decode cX11_count 134 = .ok (.aload_n 0, 1) := by decide +kernel
theorem dX11_count_135 : decode cX11_count 135 = .ok (.getfield 28, 3) := by decide +kernel
theorem dX11_count_138 : decode cX11_count 138 = .ok (.ireturn, 1) := by decide +kernel
theorem dX11_count_139 : decode cX11_count 139 = .ok (.aload_n 0, 1) := by decide +kernel
theorem dX11_count_140 : decode cX11_count 140 = .ok (.getfield 161, 3) := by decide +kernel
theorem dX11_count_143 : decode cX11_count 143 = .ok (.ireturn, 1) := by decide +kernel
theorem dX11_count_144 : decode cX11_count 144 = .ok (.aload_n 0, 1) := by decide +kernel
theorem dX11_count_145 : decode cX11_count 145 = .ok (.getfield 7, 3) := by decide +kernel
theorem dX11_count_148 : decode cX11_count 148 = .ok (.bipush 13, 2) := by decide +kernel
theorem dX11_count_150 : decode cX11_count 150 = .ok (.iload_n 1, 1) := by decide +kernel
theorem dX11_count_151 : decode cX11_count 151 = .ok (.iadd, 1) := by decide +kernel
theorem dX11_count_152 : decode cX11_count 152 = .ok (.bipush 20, 2) := by decide +kernel
theorem dX11_count_154 : decode cX11_count 154 = .ok (.isub, 1) := by decide +kernel
theorem dX11_count_155 : decode cX11_count 155 = .ok (.iaload, 1) := by decide +kernel
theorem dX11_count_156 : decode cX11_count 156 = .ok (.ireturn, 1) := by decide +kernel
theorem dX11_count_157 : decode cX11_count 157 = .ok (.iconst (-1), 1) := by decide +kernel
theorem dX11_count_158 : decode cX11_count 158 = .ok (.ireturn, 1) := by decide +kernel
theorem dX11_onCall_0 : decode cX11_onCall 0 = .ok (.iload_n 1, 1) := by decide +kernel
theorem dX11_onCall_1 : decode cX11_onCall 1 = .ok (.iconst 0, 1) := by decide +kernel
theorem dX11_onCall_2 : decode cX11_onCall 2 = .ok (.sipush 30000, 3) := by decide +kernel
theorem dX11_onCall_5 : decode cX11_onCall 5 = .ok (.invokestatic 32, 3) := by decide +kernel
theorem dX11_onCall_8 : decode cX11_onCall 8 = .ok (.ifCond .eq 13, 3) := by decide +kernel
theorem dX11_onCall_11 : decode cX11_onCall 11 = .ok (.iload_n 2, 1) := by decide +kernel
theorem dX11_onCall_12 : decode cX11_onCall 12 = .ok (.iconst (-1), 1) := by decide +kernel
theorem dX11_onCall_13 : decode cX11_onCall 13 = .ok (.bipush 9, 2) := by decide +kernel
theorem dX11_onCall_15 : decode cX11_onCall 15 = .ok (.invokestatic 32, 3) := by decide +kernel
theorem dX11_onCall_18 : decode cX11_onCall 18 = .ok (.ifCond .ne 5, 3) := by decide +kernel
theorem dX11_onCall_21 : decode cX11_onCall 21 = .ok (.iconst (-1), 1) := by decide +kernel
theorem dX11_onCall_22 : decode cX11_onCall 22 = .ok (.ireturn, 1) := by decide +kernel
theorem dX11_onCall_23 : decode cX11_onCall 23 = .ok (.aload_n 0, 1) := by decide +kernel
theorem dX11_onCall_24 : decode cX11_onCall 24 = .ok (.getfield 7, 3) := by decide +kernel
theorem dX11_onCall_27 : decode cX11_onCall 27 = .ok (.iconst 2, 1) := by decide +kernel
theorem dX11_onCall_28 : decode cX11_onCall 28 = .ok (.iaload, 1) := by decide +kernel
theorem dX11_onCall_29 : decode cX11_onCall 29 = .ok (.iload_n 1, 1) := by decide +kernel
theorem dX11_onCall_30 : decode cX11_onCall 30 = .ok (.iadd, 1) := by decide +kernel
theorem dX11_onCall_31 : decode cX11_onCall 31 = .ok (.istore_n 3, 1) := by decide +kernel
theorem dX11_onCall_32 : decode cX11_onCall 32 = .ok (.iload_n 2, 1) := by decide +kernel
theorem dX11_onCall_33 : decode cX11_onCall 33 = .ok (.ifCond .ge 11, 3) := by decide +kernel
theorem dX11_onCall_36 : decode cX11_onCall 36 = .ok (.aload_n 0, 1) := by decide +kernel
theorem dX11_onCall_37 : decode cX11_onCall 37 = .ok (.iload_n 3, 1) := by decide +kernel
theorem dX11_onCall_38 : decode cX11_onCall 38 = .ok (.invokevirtual 51, 3) := by decide +kernel
theorem dX11_onCall_41 : decode cX11_onCall 41 = .ok (.goto 9, 3) := by decide +kernel
theorem dX11_onCall_44 : decode cX11_onCall 44 = .ok (.aload_n 0, 1) := by decide +kernel
theorem dX11_onCall_45 : decode cX11_onCall 45 = .ok (.iload_n 3, 1) := by decide +kernel
theorem dX11_onCall_46 : decode cX11_onCall 46 = .ok (.iload_n 2, 1) := by decide +kernel
theorem dX11_onCall_47 : decode cX11_onCall 47 = .ok (.invokevirtual 57, 3) := by decide +kernel
theorem dX11_onCall_50 : decode cX11_onCall 50 = .ok (.istore 4, 2) := by decide +kernel
theorem dX11_onCall_52 : decode cX11_onCall 52 = .ok (.iload 4, 2) := by decide +kernel
theorem dX11_onCall_54 : decode cX11_onCall 54 = .ok (.ifCond .ge 8, 3) := by decide +kernel
theorem dX11_onCall_57 : decode cX11_onCall 57 = .ok (.bipush (-4), 2) := by decide +kernel
theorem dX11_onCall_59 : decode cX11_onCall 59 = .ok (.goto 5, 3) := by decide +kernel
theorem dX11_onCall_62 : decode cX11_onCall 62 = .ok (.iload 4, 2) := by decide +kernel
theorem dX11_onCall_64 : decode cX11_onCall 64 = .ok (.ireturn, 1) := by decide +kernel
theorem dX11_uncovered_0 : decode cX11_uncovered 0 = .ok (.iconst 0, 1) := by decide +kernel
theorem dX11_uncovered_1 : decode cX11_uncovered 1 = .ok (.istore_n 1, 1) := by decide +kernel
theorem dX11_uncovered_2 : decode cX11_uncovered 2 = .ok (.iconst 0, 1) := by decide +kernel
theorem dX11_uncovered_3 : decode cX11_uncovered 3 = .ok (.istore_n 2, 1) := by decide +kernel
theorem dX11_uncovered_4 : decode cX11_uncovered 4 = .ok (.iload_n 2, 1) := by decide +kernel
theorem dX11_uncovered_5 : decode cX11_uncovered 5 = .ok (.bipush 24, 2) := by decide +kernel
theorem dX11_uncovered_7 : decode cX11_uncovered 7 = .ok (.if_icmp .ge 28, 3) := by decide +kernel
theorem dX11_uncovered_10 : decode cX11_uncovered 10 = .ok (.iload_n 1, 1) := by decide +kernel
theorem dX11_uncovered_11 : decode cX11_uncovered 11 = .ok (.aload_n 0, 1) := by decide +kernel
theorem dX11_uncovered_12 : decode cX11_uncovered 12 = .ok (.bipush 60, 2) := by decide +kernel
theorem dX11_uncovered_14 : decode cX11_uncovered 14 = .ok (.iload_n 2, 1) := by decide +kernel
theorem dX11_uncovered_15 : decode cX11_uncovered 15 = .ok (.imul, 1) := by decide +kernel
theorem dX11_uncovered_16 : decode cX11_uncovered 16 = .ok (.invokevirtual 51, 3) := by decide +kernel
theorem dX11_uncovered_19 : decode cX11_uncovered 19 = .ok (.ifCond .ge 7, 3) := by decide +kernel
theorem dX11_uncovered_22 : decode cX11_uncovered 22 = .ok (.iconst 1, 1) := by decide +kernel
theorem dX11_uncovered_23 : decode cX11_uncovered 23 = .ok (.goto 4, 3) := by decide +kernel
theorem dX11_uncovered_26 : decode cX11_uncovered 26 = .ok (.iconst 0, 1) := by decide +kernel
theorem dX11_uncovered_27 : decode cX11_uncovered 27 = .ok (.iadd, 1) := by decide +kernel
theorem dX11_uncovered_28 : decode cX11_uncovered 28 = .ok (.istore_n 1, 1) := by decide +kernel
theorem dX11_uncovered_29 : decode cX11_uncovered 29 = .ok (.iinc 2 1, 3) := by decide +kernel
theorem dX11_uncovered_32 : decode cX11_uncovered 32 = .ok (.goto (-28), 3) := by decide +kernel
theorem dX11_uncovered_35 : decode cX11_uncovered 35 = .ok (.iload_n 1, 1) := by decide +kernel
theorem dX11_uncovered_36 : decode cX11_uncovered 36 = .ok (.ireturn, 1) := by decide +kernel
theorem dX11_later_0 : decode cX11_later 0 = .ok (.aload_n 0, 1) := by decide +kernel
theorem dX11_later_1 : decode cX11_later 1 = .ok (.iload_n 1, 1) := by decide +kernel
theorem dX11_later_2 : decode cX11_later 2 = .ok (.invokevirtual 70, 3) := by decide +kernel
theorem dX11_later_5 : decode cX11_later 5 = .ok (.ifCond .eq 23, 3) := by decide +kernel
theorem dX11_later_8 : decode cX11_later 8 = .ok (.iload_n 2, 1) := by decide +kernel
theorem dX11_later_9 : decode cX11_later 9 = .ok (.iconst 1, 1) := by decide +kernel
theorem dX11_later_10 : decode cX11_later 10 = .ok (.sipush 600, 3) := by decide +kernel
theorem dX11_later_13 : decode cX11_later 13 = .ok (.invokestatic 32, 3) := by decide +kernel
theorem dX11_later_16 : decode cX11_later 16 = .ok (.ifCond .eq 12, 3) := by decide +kernel
theorem dX11_later_19 : decode cX11_later 19 = .ok (.iload_n 3, 1) := by decide +kernel
theorem dX11_later_20 : decode cX11_later 20 = .ok (.iconst 0, 1) := by decide +kernel
theorem dX11_later_21 : decode cX11_later 21 = .ok (.iconst 2, 1) := by decide +kernel
theorem dX11_later_22 : decode cX11_later 22 = .ok (.invokestatic 32, 3) := by decide +kernel
theorem dX11_later_25 : decode cX11_later 25 = .ok (.ifCond .ne 5, 3) := by decide +kernel
theorem dX11_later_28 : decode cX11_later 28 = .ok (.iconst (-1), 1) := by decide +kernel
theorem dX11_later_29 : decode cX11_later 29 = .ok (.ireturn, 1) := by decide +kernel
theorem dX11_later_30 : decode cX11_later 30 = .ok (.iconst 0, 1) := by decide +kernel
theorem dX11_later_31 : decode cX11_later 31 = .ok (.istore 4, 2) := by decide +kernel
theorem dX11_later_33 : decode cX11_later 33 = .ok (.iload 4, 2) := by decide +kernel
theorem dX11_later_35 : decode cX11_later 35 = .ok (.sipush 229, 3) := by decide +kernel
theorem dX11_later_38 : decode cX11_later 38 = .ok (.if_icmp .ge 23, 3) := by decide +kernel
theorem dX11_later_41 : decode cX11_later 41 = .ok (.aload_n 0, 1) := by decide +kernel
theorem dX11_later_42 : decode cX11_later 42 = .ok (.getfield 16, 3) := by decide +kernel
theorem dX11_later_45 : decode cX11_later 45 = .ok (.iload 4, 2) := by decide +kernel
theorem dX11_later_47 : decode cX11_later 47 = .ok (.aload_n 0, 1) := by decide +kernel
theorem dX11_later_48 : decode cX11_later 48 = .ok (.getfield 7, 3) := by decide +kernel
theorem dX11_later_51 : decode cX11_later 51 = .ok (.iload 4, 2) := by decide +kernel
theorem dX11_later_53 : decode cX11_later 53 = .ok (.iaload, 1) := by decide +kernel
theorem dX11_later_54 : decode cX11_later 54 = .ok (.iastore, 1) := by decide +kernel
theorem dX11_later_55 : decode cX11_later 55 = .ok (.iinc 4 1, 3) := by decide +kernel
theorem dX11_later_58 : decode cX11_later 58 = .ok (.goto (-25), 3) := by decide +kernel
theorem dX11_later_61 : decode cX11_later 61 = .ok (.iconst 0, 1) := by decide +kernel
theorem dX11_later_62 : decode cX11_later 62 = .ok (.istore 4, 2) := by decide +kernel
theorem dX11_later_64 : decode cX11_later 64 = .ok (.iload 4, 2) := by decide +kernel
theorem dX11_later_66 : decode cX11_later 66 = .ok (.iload_n 2, 1) := by decide +kernel
theorem dX11_later_67 : decode cX11_later 67 = .ok (.if_icmp .ge 24, 3) := by decide +kernel
theorem dX11_later_70 : decode cX11_later 70 = .ok (.aload_n 0, 1) := by decide +kernel
theorem dX11_later_71 : decode cX11_later 71 = .ok (.getfield 7, 3) := by decide +kernel
theorem dX11_later_74 : decode cX11_later 74 = .ok (.iconst 2, 1) := by decide +kernel
theorem dX11_later_75 : decode cX11_later 75 = .ok (.dup2, 1) := by decide +kernel
theorem dX11_later_76 : decode cX11_later 76 = .ok (.iaload, 1) := by decide +kernel
theorem dX11_later_77 : decode cX11_later 77 = .ok (.iconst 1, 1) := by decide +kernel
theorem dX11_later_78 : decode cX11_later 78 = .ok (.iadd, 1) := by decide +kernel
theorem dX11_later_79 : decode cX11_later 79 = .ok (.iastore, 1) := by decide +kernel
theorem dX11_later_80 : decode cX11_later 80 = .ok (.aload_n 0, 1) := by decide +kernel
theorem dX11_later_81 : decode cX11_later 81 = .ok (.iload_n 1, 1) := by decide +kernel
theorem dX11_later_82 : decode cX11_later 82 = .ok (.invokevirtual 74, 3) := by decide +kernel
theorem dX11_later_85 : decode cX11_later 85 = .ok (.iinc 4 1, 3) := by decide +kernel
theorem dX11_later_88 : decode cX11_later 88 = .ok (.goto (-24), 3) := by decide +kernel
theorem dX11_later_91 : decode cX11_later 91 = .ok (.iload_n 1, 1) := by decide +kernel
theorem dX11_later_92 : decode cX11_later 92 = .ok (.invokestatic 36, 3) := by decide +kernel
theorem dX11_later_95 : decode cX11_later 95 = .ok (.istore 4, 2) := by decide +kernel
theorem dX11_later_97 : decode cX11_later 97 = .ok (.iload_n 3, 1) := by decide +kernel
theorem dX11_later_98 : decode cX11_later 98 = .ok (.ifCond .ne 34, 3) := by decide +kernel
theorem dX11_later_101 : decode cX11_later 101 = .ok (.aload_n 0, 1) := by decide +kernel
theorem dX11_later_102 : decode cX11_later 102 = .ok (.getfield 7, 3) := by decide +kernel
theorem dX11_later_105 : decode cX11_later 105 = .ok (.iload 4, 2) := by decide +kernel
theorem dX11_later_107 : decode cX11_later 107 = .ok (.iconst 4, 1) := by decide +kernel
theorem dX11_later_108 : decode cX11_later 108 = .ok (.iadd, 1) := by decide +kernel
theorem dX11_later_109 : decode cX11_later 109 = .ok (.iaload, 1) := by decide +kernel
theorem dX11_later_110 : decode cX11_later 110 = .ok (.ifCond .ne 8, 3) := by decide +kernel
theorem dX11_later_113 : decode cX11_later 113 = .ok (.bipush (-4), 2) := by decide +kernel
theorem dX11_later_115 : decode cX11_later 115 = .ok (.goto 44, 3) := by decide +kernel
theorem dX11_later_118 : decode cX11_later 118 = .ok (.aload_n 0, 1) := by decide +kernel
theorem dX11_later_119 : decode cX11_later 119 = .ok (.getfield 7, 3) := by decide +kernel
theorem dX11_later_122 : decode cX11_later 122 = .ok (.iload 4, 2) := by decide +kernel
theorem dX11_later_124 : decode cX11_later 124 = .ok (.iconst 4, 1) := by decide +kernel
theorem dX11_later_125 : decode cX11_later 125 = .ok (.iadd, 1) := by decide +kernel
theorem dX11_later_126 : decode cX11_later 126 = .ok (.iaload, 1) := by decide +kernel
theorem dX11_later_127 : decode cX11_later 127 = .ok (.iconst 1, 1) := by decide +kernel
theorem dX11_later_128 : decode cX11_later 128 = .ok (.isub, 1) := by decide +kernel
theorem dX11_later_129 : decode cX11_later 129 = .ok (.goto 30, 3) := by decide +kernel
theorem dX11_later_132 : decode cX11_later 132 = .ok (.iload_n 3, 1) := by decide +kernel
theorem dX11_later_133 : decode cX11_later 133 = .ok (.iconst 1, 1) := by decide +kernel
theorem dX11_later_134 : decode cX11_later 134 = .ok (.if_icmp .ne 15, 3) := by decide +kernel
theorem dX11_later_137 : decode cX11_later 137 = .ok (.aload_n 0, 1) := by decide +kernel
theorem dX11_later_138 : decode cX11_later 138 = .ok (.getfield 7, 3) := by decide +kernel
theorem dX11_later_141 : decode cX11_later 141 = .ok (.iload 4, 2) := by decide +kernel
theorem dX11_later_143 : decode cX11_later 143 = .ok (.iconst 3, 1) := by decide +kernel
theorem dX11_later_144 : decode cX11_later 144 = .ok (.iadd, 1) := by decide +kernel
theorem dX11_later_145 : decode cX11_later 145 = .ok (.iaload, 1) := by decide +kernel
theorem dX11_later_146 : decode cX11_later 146 = .ok (.goto 13, 3) := by decide +kernel
theorem dX11_later_149 : decode cX11_later 149 = .ok (.aload_n 0, 1) := by decide +kernel
theorem dX11_later_150 : decode cX11_later 150 = .ok (.getfield 7, 3) := by decide +kernel
theorem dX11_later_153 : decode cX11_later 153 = .ok (.iload 4, 2) := by decide +kernel
theorem dX11_later_155 : decode cX11_later 155 = .ok (.bipush 9, 2) := by decide +kernel
theorem dX11_later_157 : decode cX11_later 157 = .ok (.iadd, 1) := by decide +kernel
theorem dX11_later_158 : decode cX11_later 158 = .ok (.iaload, 1) := by decide +kernel
theorem dX11_later_159 : decode cX11_later 159 = .ok (.istore 5, 2) := by decide +kernel
theorem dX11_later_161 : decode cX11_later 161 = .ok (.iconst 0, 1) := by decide +kernel
theorem dX11_later_162 : decode cX11_later 162 = .ok (.istore 6, 2) := by decide +kernel
theorem dX11_later_164 : decode cX11_later 164 = .ok (.iload 6, 2) := by decide +kernel
theorem dX11_later_166 : decode cX11_later 166 = .ok (.sipush 229, 3) := by decide +kernel
theorem dX11_later_169 : decode cX11_later 169 = .ok (.if_icmp .ge 23, 3) := by decide +kernel
theorem dX11_later_172 : decode cX11_later 172 = .ok (.aload_n 0, 1) := by decide +kernel
theorem dX11_later_173 : decode cX11_later 173 = .ok (.getfield 7, 3) := by decide +kernel
theorem dX11_later_176 : decode cX11_later 176 = .ok (.iload 6, 2) := by decide +kernel
theorem dX11_later_178 : decode cX11_later 178 = .ok (.aload_n 0, 1) := by decide +kernel
theorem dX11_later_179 : decode cX11_later 179 = .ok (.getfield 16, 3) := by decide +kernel
theorem dX11_later_182 : decode cX11_later 182 = .ok (.iload 6, 2) := by decide +kernel
theorem dX11_later_184 : decode cX11_later 184 = .ok (.iaload, 1) := by decide +kernel
theorem dX11_later_185 : decode cX11_later 185 = .ok (.iastore, 1) := by decide +kernel
theorem dX11_later_186 : decode cX11_later 186 = .ok (.iinc 6 1, 3) := by decide +kernel
theorem dX11_later_189 : decode cX11_later 189 = .ok (.goto (-25), 3) := by decide +kernel
theorem dX11_later_192 : decode cX11_later 192 = .ok (.iload 5, 2) := by decide +kernel
theorem dX11_later_194 : decode cX11_later 194 = .ok (.ireturn, 1) := by decide +kernel
theorem dX11_acknowledgeBits_0 : decode cX11_acknowledgeBits 0 = .ok (.aload_n 0, 1) := by decide +kernel
theorem dX11_acknowledgeBits_1 : decode cX11_acknowledgeBits 1 = .ok (.getfield 7, 3) := by decide +kernel
theorem dX11_acknowledgeBits_4 : decode cX11_acknowledgeBits 4 = .ok (.bipush 12, 2) := by decide +kernel
theorem dX11_acknowledgeBits_6 : decode cX11_acknowledgeBits 6 = .ok (.iaload, 1) := by decide +kernel
theorem dX11_acknowledgeBits_7 : decode cX11_acknowledgeBits 7 = .ok (.ifCond .ne 6, 3) := by decide +kernel
theorem dX11_acknowledgeBits_10 : decode cX11_acknowledgeBits 10 = .ok (.bipush (-4), 2) := by decide +kernel
theorem dX11_acknowledgeBits_12 : decode cX11_acknowledgeBits 12 = .ok (.ireturn, 1) := by decide +kernel
theorem dX11_acknowledgeBits_13 : decode cX11_acknowledgeBits 13 = .ok (.aload_n 0, 1) := by decide +kernel
theorem dX11_acknowledgeBits_14 : decode cX11_acknowledgeBits 14 = .ok (.getfield 7, 3) := by decide +kernel
theorem dX11_acknowledgeBits_17 : decode cX11_acknowledgeBits 17 = .ok (.bipush 11, 2) := by decide +kernel
theorem dX11_acknowledgeBits_19 : decode cX11_acknowledgeBits 19 = .ok (.iaload, 1) := by decide +kernel
theorem dX11_acknowledgeBits_20 : decode cX11_acknowledgeBits 20 = .ok (.i2f, 1) := by decide +kernel
theorem dX11_acknowledgeBits_21 : decode cX11_acknowledgeBits 21 = .ok (.fstore_n 1, 1) := by decide +kernel
theorem dX11_acknowledgeBits_22 : decode cX11_acknowledgeBits 22 = .ok (.aload_n 0, 1) := by decide +kernel
theorem dX11_acknowledgeBits_23 : decode cX11_acknowledgeBits 23 = .ok (.getfield 7, 3) := by decide +kernel
theorem dX11_acknowledgeBits_26 : decode cX11_acknowledgeBits 26 = .ok (.bipush 12, 2) := by decide +kernel
theorem dX11_acknowledgeBits_28 : decode cX11_acknowledgeBits 28 = .ok (.iaload, 1) := by decide +kernel
theorem dX11_acknowledgeBits_29 : decode cX11_acknowledgeBits 29 = .ok (.i2f, 1) := by decide +kernel
theorem dX11_acknowledgeBits_30 : decode cX11_acknowledgeBits 30 = .ok (.fstore_n 2, 1) := by decide +kernel
theorem dX11_acknowledgeBits_31 : decode cX11_acknowledgeBits 31 = .ok (.fload_n 1, 1) := by decide +kernel
theorem dX11_acknowledgeBits_32 : decode cX11_acknowledgeBits 32 = .ok (.fload_n 2, 1) := by decide +kernel
theorem dX11_acknowledgeBits_33 : decode cX11_acknowledgeBits 33 = .ok (.fdiv, 1) := by decide +kernel
theorem dX11_acknowledgeBits_34 : decode cX11_acknowledgeBits 34 = .ok (.invokestatic 164, 3) := by decide +kernel
theorem dX11_acknowledgeBits_37 : decode cX11_acknowledgeBits 37 = .ok (.ireturn, 1) := by decide +kernel
theorem dX11_unownedBits_0 : decode cX11_unownedBits 0 = .ok (.aload_n 0, 1) := by decide +kernel
theorem dX11_unownedBits_1 : decode cX11_unownedBits 1 = .ok (.getfield 7, 3) := by decide +kernel
theorem dX11_unownedBits_4 : decode cX11_unownedBits 4 = .ok (.bipush 10, 2) := by decide +kernel
theorem dX11_unownedBits_6 : decode cX11_unownedBits 6 = .ok (.iaload, 1) := by decide +kernel
theorem dX11_unownedBits_7 : decode cX11_unownedBits 7 = .ok (.istore_n 1, 1) := by decide +kernel
theorem dX11_unownedBits_8 : decode cX11_unownedBits 8 = .ok (.iconst 0, 1) := by decide +kernel
theorem dX11_unownedBits_9 : decode cX11_unownedBits 9 = .ok (.istore_n 2, 1) := by decide +kernel
theorem dX11_unownedBits_10 : decode cX11_unownedBits 10 = .ok (.iload_n 2, 1) := by decide +kernel
theorem dX11_unownedBits_11 : decode cX11_unownedBits 11 = .ok (.bipush 8, 2) := by decide +kernel
theorem dX11_unownedBits_13 : decode cX11_unownedBits 13 = .ok (.if_icmp .ge 43, 3) := by decide +kernel
theorem dX11_unownedBits_16 : decode cX11_unownedBits 16 = .ok (.iload_n 1, 1) := by decide +kernel
theorem dX11_unownedBits_17 : decode cX11_unownedBits 17 = .ok (.aload_n 0, 1) := by decide +kernel
theorem dX11_unownedBits_18 : decode cX11_unownedBits 18 = .ok (.iload_n 2, 1) := by decide +kernel
theorem dX11_unownedBits_19 : decode cX11_unownedBits 19 = .ok (.invokevirtual 70, 3) := by decide +kernel
theorem dX11_unownedBits_22 : decode cX11_unownedBits 22 = .ok (.ifCond .eq 25, 3) := by decide +kernel
theorem dX11_unownedBits_25 : decode cX11_unownedBits 25 = .ok (.aload_n 0, 1) := by decide +kernel
theorem dX11_unownedBits_26 : decode cX11_unownedBits 26 = .ok (.getfield 7, 3) := by decide +kernel
theorem dX11_unownedBits_29 : decode cX11_unownedBits 29 = .ok (.iconst 2, 1) := by decide +kernel
theorem dX11_unownedBits_30 : decode cX11_unownedBits 30 = .ok (.iaload, 1) := by decide +kernel
theorem dX11_unownedBits_31 : decode cX11_unownedBits 31 = .ok (.aload_n 0, 1) := by decide +kernel
theorem dX11_unownedBits_32 : decode cX11_unownedBits 32 = .ok (.getfield 7, 3) := by decide +kernel
theorem dX11_unownedBits_35 : decode cX11_unownedBits 35 = .ok (.iload_n 2, 1) := by decide +kernel
theorem dX11_unownedBits_36 : decode cX11_unownedBits 36 = .ok (.invokestatic 36, 3) := by decide +kernel
theorem dX11_unownedBits_39 : decode cX11_unownedBits 39 = .ok (.bipush 7, 2) := by decide +kernel
theorem dX11_unownedBits_41 : decode cX11_unownedBits 41 = .ok (.iadd, 1) := by decide +kernel
theorem dX11_unownedBits_42 : decode cX11_unownedBits 42 = .ok (.iaload, 1) := by decide +kernel
theorem dX11_unownedBits_43 : decode cX11_unownedBits 43 = .ok (.isub, 1) := by decide +kernel
theorem dX11_unownedBits_44 : decode cX11_unownedBits 44 = .ok (.goto 4, 3) := by decide +kernel
theorem dX11_unownedBits_47 : decode cX11_unownedBits 47 = .ok (.iconst 0, 1) := by decide +kernel
theorem dX11_unownedBits_48 : decode cX11_unownedBits 48 = .ok (.iadd, 1) := by decide +kernel
theorem dX11_unownedBits_49 : decode cX11_unownedBits 49 = .ok (.istore_n 1, 1) := by decide +kernel
theorem dX11_unownedBits_50 : decode cX11_unownedBits 50 = .ok (.iinc 2 1, 3) := by decide +kernel
theorem dX11_unownedBits_53 : decode cX11_unownedBits 53 = .ok (.goto (-43), 3) := by decide +kernel
theorem dX11_unownedBits_56 : decode cX11_unownedBits 56 = .ok (.iload_n 1, 1) := by decide +kernel
theorem dX11_unownedBits_57 : decode cX11_unownedBits 57 = .ok (.ifCond .ne 6, 3) := by decide +kernel
theorem dX11_unownedBits_60 : decode cX11_unownedBits 60 = .ok (.bipush (-4), 2) := by decide +kernel
theorem dX11_unownedBits_62 : decode cX11_unownedBits 62 = .ok (.ireturn, 1) := by decide +kernel
theorem dX11_unownedBits_63 : decode cX11_unownedBits 63 = .ok (.aload_n 0, 1) := by decide +kernel
theorem dX11_unownedBits_64 : decode cX11_unownedBits 64 = .ok (.getfield 7, 3) := by decide +kernel
theorem dX11_unownedBits_67 : decode cX11_unownedBits 67 = .ok (.bipush 9, 2) := by decide +kernel
theorem dX11_unownedBits_69 : decode cX11_unownedBits 69 = .ok (.iaload, 1) := by decide +kernel
theorem dX11_unownedBits_70 : decode cX11_unownedBits 70 = .ok (.i2d, 1) := by decide +kernel
theorem dX11_unownedBits_71 : decode cX11_unownedBits 71 = .ok (.dstore_n 2, 1) := by decide +kernel
theorem dX11_unownedBits_72 : decode cX11_unownedBits 72 = .ok (.iload_n 1, 1) := by decide +kernel
theorem dX11_unownedBits_73 : decode cX11_unownedBits 73 = .ok (.i2d, 1) := by decide +kernel
theorem dX11_unownedBits_74 : decode cX11_unownedBits 74 = .ok (.dstore 4, 2) := by decide +kernel
theorem dX11_unownedBits_76 : decode cX11_unownedBits 76 = .ok (.dload_n 2, 1) := by decide +kernel
theorem dX11_unownedBits_77 : decode cX11_unownedBits 77 = .ok (.dload 4, 2) := by decide +kernel
theorem dX11_unownedBits_79 : decode cX11_unownedBits 79 = .ok (.ddiv, 1) := by decide +kernel
theorem dX11_unownedBits_80 : decode cX11_unownedBits 80 = .ok (.d2f, 1) := by decide +kernel
theorem dX11_unownedBits_81 : decode cX11_unownedBits 81 = .ok (.invokestatic 164, 3) := by decide +kernel
theorem dX11_unownedBits_84 : decode cX11_unownedBits 84 = .ok (.ireturn, 1) := by decide +kernel
theorem dX11_undo_0 : decode cX11_undo 0 = .ok (.aload_n 0, 1) := by decide +kernel
theorem dX11_undo_1 : decode cX11_undo 1 = .ok (.getfield 28, 3) := by decide +kernel
theorem dX11_undo_4 : decode cX11_undo 4 = .ok (.ifCond .ne 6, 3) := by decide +kernel
theorem dX11_undo_7 : decode cX11_undo 7 = .ok (.bipush (-2), 2) := by decide +kernel
theorem dX11_undo_9 : decode cX11_undo 9 = .ok (.ireturn, 1) := by decide +kernel
theorem dX11_undo_10 : decode cX11_undo 10 = .ok (.aload_n 0, 1) := by decide +kernel
theorem dX11_undo_11 : decode cX11_undo 11 = .ok (.dup, 1) := by decide +kernel
theorem dX11_undo_12 : decode cX11_undo 12 = .ok (.getfield 28, 3) := by decide +kernel
theorem dX11_undo_15 : decode cX11_undo 15 = .ok (.iconst 1, 1) := by decide +kernel
theorem dX11_undo_16 : decode cX11_undo 16 = .ok (.isub, 1) := by decide +kernel
theorem dX11_undo_17 : decode cX11_undo 17 = .ok (.putfield 28, 3) := by decide +kernel
theorem dX11_undo_20 : decode cX11_undo 20 = .ok (.iconst 0, 1) := by decide +kernel
theorem dX11_undo_21 : decode cX11_undo 21 = .ok (.istore_n 1, 1) := by decide +kernel
theorem dX11_undo_22 : decode cX11_undo 22 = .ok (.iload_n 1, 1) := by decide +kernel
theorem dX11_undo_23 : decode cX11_undo 23 = .ok (.sipush 229, 3) := by decide +kernel
theorem dX11_undo_26 : decode cX11_undo 26 = .ok (.if_icmp .ge 30, 3) := by decide +kernel
theorem dX11_undo_29 : decode cX11_undo 29 = .ok (.aload_n 0, 1) := by decide +kernel
theorem dX11_undo_30 : decode cX11_undo 30 = .ok (.getfield 7, 3) := by decide +kernel
theorem dX11_undo_33 : decode cX11_undo 33 = .ok (.iload_n 1, 1) := by decide +kernel
theorem dX11_undo_34 : decode cX11_undo 34 = .ok (.aload_n 0, 1) := by decide +kernel
theorem dX11_undo_35 : decode cX11_undo 35 = .ok (.getfield 19, 3) := by decide +kernel
theorem dX11_undo_38 : decode cX11_undo 38 = .ok (.sipush 229, 3) := by decide +kernel
theorem dX11_undo_41 : decode cX11_undo 41 = .ok (.aload_n 0, 1) := by decide +kernel
theorem dX11_undo_42 : decode cX11_undo 42 = .ok (.getfield 28, 3) := by decide +kernel
theorem dX11_undo_45 : decode cX11_undo 45 = .ok (.imul, 1) := by decide +kernel
theorem dX11_undo_46 : decode cX11_undo 46 = .ok (.iload_n 1, 1) := by decide +kernel
theorem dX11_undo_47 : decode cX11_undo 47 = .ok (.iadd, 1) := by decide +kernel
theorem dX11_undo_48 : decode cX11_undo 48 = .ok (.iaload, 1) := by decide +kernel
theorem dX11_undo_49 : decode cX11_undo 49 = .ok (.iastore, 1) := by decide +kernel
theorem dX11_undo_50 : decode cX11_undo 50 = .ok (.iinc 1 1, 3) := by decide +kernel
theorem dX11_undo_53 : decode cX11_undo 53 = .ok (.goto (-31), 3) := by decide +kernel
theorem dX11_undo_56 : decode cX11_undo 56 = .ok (.aload_n 0, 1) := by decide +kernel
theorem dX11_undo_57 : decode cX11_undo 57 = .ok (.getfield 28, 3) := by decide +kernel
theorem dX11_undo_60 : decode cX11_undo 60 = .ok (.ireturn, 1) := by decide +kernel
theorem dX11_type_0 : decode cX11_type 0 = .ok (.iload_n 1, 1) := by decide +kernel
theorem dX11_type_1 : decode cX11_type 1 = .ok (.bipush 32, 2) := by decide +kernel
theorem dX11_type_3 : decode cX11_type 3 = .ok (.bipush 126, 2) := by decide +kernel
theorem dX11_type_5 : decode cX11_type 5 = .ok (.invokestatic 32, 3) := by decide +kernel
theorem dX11_type_8 : decode cX11_type 8 = .ok (.ifCond .ne 5, 3) := by decide +kernel
theorem dX11_type_11 : decode cX11_type 11 = .ok (.iconst (-1), 1) := by decide +kernel
theorem dX11_type_12 : decode cX11_type 12 = .ok (.ireturn, 1) := by decide +kernel
theorem dX11_type_13 : decode cX11_type 13 = .ok (.aload_n 0, 1) := by decide +kernel
theorem dX11_type_14 : decode cX11_type 14 = .ok (.getfield 161, 3) := by decide +kernel
theorem dX11_type_17 : decode cX11_type 17 = .ok (.bipush 80, 2) := by decide +kernel
theorem dX11_type_19 : decode cX11_type 19 = .ok (.if_icmp .ne 6, 3) := by decide +kernel
theorem dX11_type_22 : decode cX11_type 22 = .ok (.bipush (-3), 2) := by decide +kernel
theorem dX11_type_24 : decode cX11_type 24 = .ok (.ireturn, 1) := by decide +kernel
theorem dX11_type_25 : decode cX11_type 25 = .ok (.aload_n 0, 1) := by decide +kernel
theorem dX11_type_26 : decode cX11_type 26 = .ok (.getfield 22, 3) := by decide +kernel
theorem dX11_type_29 : decode cX11_type 29 = .ok (.aload_n 0, 1) := by decide +kernel
theorem dX11_type_30 : decode cX11_type 30 = .ok (.getfield 161, 3) := by decide +kernel
theorem dX11_type_33 : decode cX11_type 33 = .ok (.iload_n 1, 1) := by decide +kernel
theorem dX11_type_34 : decode cX11_type 34 = .ok (.iastore, 1) := by decide +kernel
theorem dX11_type_35 : decode cX11_type 35 = .ok (.aload_n 0, 1) := by decide +kernel
theorem dX11_type_36 : decode cX11_type 36 = .ok (.dup, 1) := by decide +kernel
theorem dX11_type_37 : decode cX11_type 37 = .ok (.getfield 161, 3) := by decide +kernel
theorem dX11_type_40 : decode cX11_type 40 = .ok (.iconst 1, 1) := by decide +kernel
theorem dX11_type_41 : decode cX11_type 41 = .ok (.iadd, 1) := by decide +kernel
theorem dX11_type_42 : decode cX11_type 42 = .ok (.putfield 161, 3) := by decide +kernel
theorem dX11_type_45 : decode cX11_type 45 = .ok (.aload_n 0, 1) := by decide +kernel
theorem dX11_type_46 : decode cX11_type 46 = .ok (.getfield 161, 3) := by decide +kernel
theorem dX11_type_49 : decode cX11_type 49 = .ok (.ireturn, 1) := by decide +kernel
theorem dX11_clearText_0 : decode cX11_clearText 0 = .ok (.aload_n 0, 1) := by decide +kernel
theorem dX11_clearText_1 : decode cX11_clearText 1 = .ok (.getfield 161, 3) := by decide +kernel
theorem dX11_clearText_4 : decode cX11_clearText 4 = .ok (.istore_n 1, 1) := by decide +kernel
theorem dX11_clearText_5 : decode cX11_clearText 5 = .ok (.aload_n 0, 1) := by decide +kernel
theorem dX11_clearText_6 : decode cX11_clearText 6 = .ok (.iconst 0, 1) := by decide +kernel
theorem dX11_clearText_7 : decode cX11_clearText 7 = .ok (.putfield 161, 3) := by decide +kernel
theorem dX11_clearText_10 : decode cX11_clearText 10 = .ok (.iload_n 1, 1) := by decide +kernel
theorem dX11_clearText_11 : decode cX11_clearText 11 = .ok (.ireturn, 1) := by decide +kernel
theorem dX11_here_0 : decode cX11_here 0 = .ok (.aload_n 0, 1) := by decide +kernel
theorem dX11_here_1 : decode cX11_here 1 = .ok (.getfield 170, 3) := by decide +kernel
theorem dX11_here_4 : decode cX11_here 4 = .ok (.aload_n 0, 1) := by decide +kernel
theorem dX11_here_5 : decode cX11_here 5 = .ok (.getfield 161, 3) := by decide +kernel
theorem dX11_here_8 : decode cX11_here 8 = .ok (.if_icmp .ge 15, 3) := by decide +kernel
theorem dX11_here_11 : decode cX11_here 11 = .ok (.aload_n 0, 1) := by decide +kernel
theorem dX11_here_12 : decode cX11_here 12 = .ok (.getfield 22, 3) := by decide +kernel
theorem dX11_here_15 : decode cX11_here 15 = .ok (.aload_n 0, 1) := by decide +kernel
theorem dX11_here_16 : decode cX11_here 16 = .ok (.getfield 170, 3) := by decide +kernel
theorem dX11_here_19 : decode cX11_here 19 = .ok (.iaload, 1) := by decide +kernel
theorem dX11_here_20 : decode cX11_here 20 = .ok (.goto 4, 3) := by decide +kernel
theorem dX11_here_23 : decode cX11_here 23 = .ok (.iconst (-1), 1) := by decide +kernel
theorem dX11_here_24 : decode cX11_here 24 = .ok (.ireturn, 1) := by decide +kernel
theorem dX11_must_0 : decode cX11_must 0 = .ok (.aload_n 0, 1) := by decide +kernel
theorem dX11_must_1 : decode cX11_must 1 = .ok (.aload_n 0, 1) := by decide +kernel
theorem dX11_must_2 : decode cX11_must 2 = .ok (.getfield 173, 3) := by decide +kernel
theorem dX11_must_5 : decode cX11_must 5 = .ok (.ifCond .eq 15, 3) := by decide +kernel
theorem dX11_must_8 : decode cX11_must 8 = .ok (.aload_n 0, 1) := by decide +kernel
theorem dX11_must_9 : decode cX11_must 9 = .ok (.invokevirtual 177, 3) := by decide +kernel
theorem dX11_must_12 : decode cX11_must 12 = .ok (.iload_n 1, 1) := by decide +kernel
theorem dX11_must_13 : decode cX11_must 13 = .ok (.if_icmp .ne 7, 3) := by decide +kernel
theorem dX11_must_16 : decode cX11_must 16 = .ok (.iconst 1, 1) := by decide +kernel
theorem dX11_must_17 : decode cX11_must 17 = .ok (.goto 4, 3) := by decide +kernel
theorem dX11_must_20 : decode cX11_must 20 = .ok (.iconst 0, 1) := by decide +kernel
theorem dX11_must_21 : decode cX11_must 21 = .ok (.putfield 173, 3) := by decide +kernel
theorem dX11_must_24 : decode cX11_must 24 = .ok (.aload_n 0, 1) := by decide +kernel
theorem dX11_must_25 : decode cX11_must 25 = .ok (.dup, 1) := by decide +kernel
theorem dX11_must_26 : decode cX11_must 26 = .ok (.getfield 170, 3) := by decide +kernel
theorem dX11_must_29 : decode cX11_must 29 = .ok (.iconst 1, 1) := by decide +kernel
theorem dX11_must_30 : decode cX11_must 30 = .ok (.iadd, 1) := by decide +kernel
theorem dX11_must_31 : decode cX11_must 31 = .ok (.putfield 170, 3) := by decide +kernel
theorem dX11_must_34 : decode cX11_must 34 = .ok (.return_, 1) := by decide +kernel
theorem dX11_readNumber_0 : decode cX11_readNumber 0 = .ok (.aload_n 0, 1) := by decide +kernel
theorem dX11_readNumber_1 : decode cX11_readNumber 1 = .ok (.iload_n 1, 1) := by decide +kernel
theorem dX11_readNumber_2 : decode cX11_readNumber 2 = .ok (.invokevirtual 180, 3) := by decide +kernel
theorem dX11_readNumber_5 : decode cX11_readNumber 5 = .ok (.iconst 0, 1) := by decide +kernel
theorem dX11_readNumber_6 : decode cX11_readNumber 6 = .ok (.istore_n 2, 1) := by decide +kernel
theorem dX11_readNumber_7 : decode cX11_readNumber 7 = .ok (.iconst 0, 1) := by decide +kernel
theorem dX11_readNumber_8 : decode cX11_readNumber 8 = .ok (.istore_n 3, 1) := by decide +kernel
theorem dX11_readNumber_9 : decode cX11_readNumber 9 = .ok (.iload_n 3, 1) := by decide +kernel
theorem dX11_readNumber_10 : decode cX11_readNumber 10 = .ok (.iconst 3, 1) := by decide +kernel
theorem dX11_readNumber_11 : decode cX11_readNumber 11 = .ok (.if_icmp .ge 46, 3) := by decide +kernel
theorem dX11_readNumber_14 : decode cX11_readNumber 14 = .ok (.aload_n 0, 1) := by decide +kernel
theorem dX11_readNumber_15 : decode cX11_readNumber 15 = .ok (.invokevirtual 177, 3) := by decide +kernel
theorem dX11_readNumber_18 : decode cX11_readNumber 18 = .ok (.bipush 48, 2) := by decide +kernel
theorem dX11_readNumber_20 : decode cX11_readNumber 20 = .ok (.bipush 57, 2) := by decide +kernel
theorem dX11_readNumber_22 : decode cX11_readNumber 22 = .ok (.invokestatic 32, 3) := by decide +kernel
theorem dX11_readNumber_25 : decode cX11_readNumber 25 = .ok (.ifCond .eq 32, 3) := by decide +kernel
theorem dX11_readNumber_28 : decode cX11_readNumber 28 = .ok (.bipush 10, 2) := by decide +kernel
theorem dX11_readNumber_30 : decode cX11_readNumber 30 = .ok (.iload_n 2, 1) := by decide +kernel
theorem dX11_readNumber_31 : decode cX11_readNumber 31 = .ok (.imul, 1) := by decide +kernel
theorem dX11_readNumber_32 : decode cX11_readNumber 32 = .ok (.aload_n 0, 1) := by decide +kernel
theorem dX11_readNumber_33 : decode cX11_readNumber 33 = .ok (.invokevirtual 177, 3) := by decide +kernel
theorem dX11_readNumber_36 : decode cX11_readNumber 36 = .ok (.iadd, 1) := by decide +kernel
theorem dX11_readNumber_37 : decode cX11_readNumber 37 = .ok (.bipush 48, 2) := by decide +kernel
theorem dX11_readNumber_39 : decode cX11_readNumber 39 = .ok (.isub, 1) := by decide +kernel
theorem dX11_readNumber_40 : decode cX11_readNumber 40 = .ok (.istore_n 2, 1) := by decide +kernel
theorem dX11_readNumber_41 : decode cX11_readNumber 41 = .ok (.iinc 3 1, 3) := by decide +kernel
theorem dX11_readNumber_44 : decode cX11_readNumber 44 = .ok (.aload_n 0, 1) := by decide +kernel
theorem dX11_readNumber_45 : decode cX11_readNumber 45 = .ok (.dup, 1) := by decide +kernel
theorem dX11_readNumber_46 : decode cX11_readNumber 46 = .ok (.getfield 170, 3) := by decide +kernel
theorem dX11_readNumber_49 : decode cX11_readNumber 49 = .ok (.iconst 1, 1) := by decide +kernel
theorem dX11_readNumber_50 : decode cX11_readNumber 50 = .ok (.iadd, 1) := by decide +kernel
theorem dX11_readNumber_51 : decode cX11_readNumber 51 = .ok (.putfield 170, 3) := by decide +kernel
theorem dX11_readNumber_54 : decode cX11_readNumber 54 = .ok (.goto (-45), 3) := by decide +kernel
theorem dX11_readNumber_57 : decode cX11_readNumber 57 = .ok (.aload_n 0, 1) := by decide +kernel
theorem dX11_readNumber_58 : decode cX11_readNumber 58 = .ok (.aload_n 0, 1) := by decide +kernel
theorem dX11_readNumber_59 : decode cX11_readNumber 59 = .ok (.getfield 173, 3) := by decide +kernel
theorem dX11_readNumber_62 : decode cX11_readNumber 62 = .ok (.ifCond .eq 11, 3) := by decide +kernel
theorem dX11_readNumber_65 : decode cX11_readNumber 65 = .ok (.iload_n 3, 1) := by decide +kernel
theorem dX11_readNumber_66 : decode cX11_readNumber 66 = .ok (.ifCond .le 7, 3) := by decide +kernel
theorem dX11_readNumber_69 : decode cX11_readNumber 69 = .ok (.iconst 1, 1) := by decide +kernel
theorem dX11_readNumber_70 : decode cX11_readNumber 70 = .ok (.goto 4, 3) := by decide +kernel
theorem dX11_readNumber_73 : decode cX11_readNumber 73 = .ok (.iconst 0, 1) := by decide +kernel
theorem dX11_readNumber_74 : decode cX11_readNumber 74 = .ok (.putfield 173, 3) := by decide +kernel
theorem dX11_readNumber_77 : decode cX11_readNumber 77 = .ok (.iload_n 2, 1) := by decide +kernel
theorem dX11_readNumber_78 : decode cX11_readNumber 78 = .ok (.ireturn, 1) := by decide +kernel
theorem dX11_command_0 : decode cX11_command 0 = .ok (.aload_n 0, 1) := by decide +kernel
theorem dX11_command_1 : decode cX11_command 1 = .ok (.invokevirtual 177, 3) := by decide +kernel
theorem dX11_command_4 : decode cX11_command 4 = .ok (.istore_n 1, 1) := by decide +kernel
theorem dX11_command_5 : decode cX11_command 5 = .ok (.aload_n 0, 1) := by decide +kernel
theorem dX11_command_6 : decode cX11_command 6 = .ok (.iload_n 1, 1) := by decide +kernel
theorem dX11_command_7 : decode cX11_command 7 = .ok (.bipush 97, 2) := by decide +kernel
theorem dX11_command_9 : decode cX11_command 9 = .ok (.if_icmp .eq 27, 3) := by decide +kernel
theorem dX11_command_12 : decode cX11_command 12 = .ok (.iload_n 1, 1) := by decide +kernel
theorem dX11_command_13 : decode cX11_command 13 = .ok (.bipush 107, 2) := by decide +kernel
theorem dX11_command_15 : decode cX11_command 15 = .ok (.if_icmp .eq 21, 3) := by decide +kernel
theorem dX11_command_18 : decode cX11_command 18 = .ok (.iload_n 1, 1) := by decide +kernel
theorem dX11_command_19 : decode cX11_command 19 = .ok (.bipush 114, 2) := by decide +kernel
theorem dX11_command_21 : decode cX11_command 21 = .ok (.if_icmp .eq 15, 3) := by decide +kernel
theorem dX11_command_24 : decode cX11_command 24 = .ok (.iload_n 1, 1) := by decide +kernel
theorem dX11_command_25 : decode cX11_command 25 = .ok (.bipush 111, 2) := by decide +kernel
theorem dX11_command_27 : decode cX11_command 27 = .ok (.if_icmp .eq 9, 3) := by decide +kernel
theorem dX11_command_30 : decode cX11_command 30 = .ok (.iload_n 1, 1) := by decide +kernel
theorem dX11_command_31 : decode cX11_command 31 = .ok (.bipush 116, 2) := by decide +kernel
theorem dX11_command_33 : decode cX11_command 33 = .ok (.if_icmp .ne 7, 3) := by decide +kernel
theorem dX11_command_36 : decode cX11_command 36 = .ok (.iconst 1, 1) := by decide +kernel
theorem dX11_command_37 : decode cX11_command 37 = .ok (.goto 4, 3) := by decide +kernel
theorem dX11_command_40 : decode cX11_command 40 = .ok (.iconst 0, 1) := by decide +kernel
theorem dX11_command_41 : decode cX11_command 41 = .ok (.putfield 173, 3) := by decide +kernel
theorem dX11_command_44 : decode cX11_command 44 = .ok (.iload_n 1, 1) := by decide +kernel
theorem dX11_command_45 : decode cX11_command 45 = .ok (.bipush 97, 2) := by decide +kernel
theorem dX11_command_47 : decode cX11_command 47 = .ok (.if_icmp .ne 7, 3) := by decide +kernel
theorem dX11_command_50 : decode cX11_command 50 = .ok (.iconst 2, 1) := by decide +kernel
theorem dX11_command_51 : decode cX11_command 51 = .ok (.goto 14, 3) := by decide +kernel
theorem dX11_command_54 : decode cX11_command 54 = .ok (.iload_n 1, 1) := by decide +kernel
theorem dX11_command_55 : decode cX11_command 55 = .ok (.bipush 111, 2) := by decide +kernel
theorem dX11_command_57 : decode cX11_command 57 = .ok (.if_icmp .ne 7, 3) := by decide +kernel
theorem dX11_command_60 : decode cX11_command 60 = .ok (.iconst 3, 1) := by decide +kernel
theorem dX11_command_61 : decode cX11_command 61 = .ok (.goto 4, 3) := by decide +kernel
theorem dX11_command_64 : decode cX11_command 64 = .ok (.iconst 1, 1) := by decide +kernel
theorem dX11_command_65 : decode cX11_command 65 = .ok (.istore_n 2, 1) := by decide +kernel
theorem dX11_command_66 : decode cX11_command 66 = .ok (.iconst 0, 1) := by decide +kernel
theorem dX11_command_67 : decode cX11_command 67 = .ok (.istore_n 3, 1) := by decide +kernel
theorem dX11_command_68 : decode cX11_command 68 = .ok (.iload_n 3, 1) := by decide +kernel
theorem dX11_command_69 : decode cX11_command 69 = .ok (.iload_n 2, 1) := by decide +kernel
theorem dX11_command_70 : decode cX11_command 70 = .ok (.if_icmp .ge 29, 3) := by decide +kernel
theorem dX11_command_73 : decode cX11_command 73 = .ok (.aload_n 0, 1) := by decide +kernel
theorem dX11_command_74 : decode cX11_command 74 = .ok (.getfield 25, 3) := by decide +kernel
theorem dX11_command_77 : decode cX11_command 77 = .ok (.iload_n 3, 1) := by decide +kernel
theorem dX11_command_78 : decode cX11_command 78 = .ok (.aload_n 0, 1) := by decide +kernel
theorem dX11_command_79 : decode cX11_command 79 = .ok (.iload_n 3, 1) := by decide +kernel
theorem dX11_command_80 : decode cX11_command 80 = .ok (.ifCond .ne 7, 3) := by decide +kernel
theorem dX11_command_83 : decode cX11_command 83 = .ok (.iload_n 1, 1) := by decide +kernel
theorem dX11_command_84 : decode cX11_command 84 = .ok (.goto 5, 3) := by decide +kernel
theorem dX11_command_87 : decode cX11_command 87 = .ok (.bipush 44, 2) := by decide +kernel
theorem dX11_command_89 : decode cX11_command 89 = .ok (.invokevirtual 183, 3) := by decide +kernel
theorem dX11_command_92 : decode cX11_command 92 = .ok (.iastore, 1) := by decide +kernel
theorem dX11_command_93 : decode cX11_command 93 = .ok (.iinc 3 1, 3) := by decide +kernel
theorem dX11_command_96 : decode cX11_command 96 = .ok (.goto (-28), 3) := by decide +kernel
theorem dX11_command_99 : decode cX11_command 99 = .ok (.aload_n 0, 1) := by decide +kernel
theorem dX11_command_100 : decode cX11_command 100 = .ok (.bipush 59, 2) := by decide +kernel
theorem dX11_command_102 : decode cX11_command 102 = .ok (.invokevirtual 180, 3) := by decide +kernel
theorem dX11_command_105 : decode cX11_command 105 = .ok (.aload_n 0, 1) := by decide +kernel
theorem dX11_command_106 : decode cX11_command 106 = .ok (.getfield 173, 3) := by decide +kernel
theorem dX11_command_109 : decode cX11_command 109 = .ok (.ifCond .ne 5, 3) := by decide +kernel
theorem dX11_command_112 : decode cX11_command 112 = .ok (.iconst 0, 1) := by decide +kernel
theorem dX11_command_113 : decode cX11_command 113 = .ok (.ireturn, 1) := by decide +kernel
theorem dX11_command_114 : decode cX11_command 114 = .ok (.iload_n 1, 1) := by decide +kernel
theorem dX11_command_115 : decode cX11_command 115 = .ok (.lookupswitch 103 #[(97, 41), (107, 58), (111, 80), (114, 69)], 41) := by decide +kernel
theorem dX11_command_156 : decode cX11_command 156 = .ok (.aload_n 0, 1) := by decide +kernel
theorem dX11_command_157 : decode cX11_command 157 = .ok (.aload_n 0, 1) := by decide +kernel
theorem dX11_command_158 : decode cX11_command 158 = .ok (.getfield 25, 3) := by decide +kernel
theorem dX11_command_161 : decode cX11_command 161 = .ok (.iconst 0, 1) := by decide +kernel
theorem dX11_command_162 : decode cX11_command 162 = .ok (.iaload, 1) := by decide +kernel
theorem dX11_command_163 : decode cX11_command 163 = .ok (.aload_n 0, 1) := by decide +kernel
theorem dX11_command_164 : decode cX11_command 164 = .ok (.getfield 25, 3) := by decide +kernel
theorem dX11_command_167 : decode cX11_command 167 = .ok (.iconst 1, 1) := by decide +kernel
theorem dX11_command_168 : decode cX11_command 168 = .ok (.iaload, 1) := by decide +kernel
theorem dX11_command_169 : decode cX11_command 169 = .ok (.invokevirtual 136, 3) := by decide +kernel
theorem dX11_command_172 : decode cX11_command 172 = .ok (.ireturn, 1) := by decide +kernel
theorem dX11_command_173 : decode cX11_command 173 = .ok (.aload_n 0, 1) := by decide +kernel
theorem dX11_command_174 : decode cX11_command 174 = .ok (.aload_n 0, 1) := by decide +kernel
theorem dX11_command_175 : decode cX11_command 175 = .ok (.getfield 25, 3) := by decide +kernel
theorem dX11_command_178 : decode cX11_command 178 = .ok (.iconst 0, 1) := by decide +kernel
theorem dX11_command_179 : decode cX11_command 179 = .ok (.iaload, 1) := by decide +kernel
theorem dX11_command_180 : decode cX11_command 180 = .ok (.invokevirtual 139, 3) := by decide +kernel
theorem dX11_command_183 : decode cX11_command 183 = .ok (.ireturn, 1) := by decide +kernel
theorem dX11_command_184 : decode cX11_command 184 = .ok (.aload_n 0, 1) := by decide +kernel
theorem dX11_command_185 : decode cX11_command 185 = .ok (.aload_n 0, 1) := by decide +kernel
theorem dX11_command_186 : decode cX11_command 186 = .ok (.getfield 25, 3) := by decide +kernel
theorem dX11_command_189 : decode cX11_command 189 = .ok (.iconst 0, 1) := by decide +kernel
theorem dX11_command_190 : decode cX11_command 190 = .ok (.iaload, 1) := by decide +kernel
theorem dX11_command_191 : decode cX11_command 191 = .ok (.invokevirtual 142, 3) := by decide +kernel
theorem dX11_command_194 : decode cX11_command 194 = .ok (.ireturn, 1) := by decide +kernel
theorem dX11_command_195 : decode cX11_command 195 = .ok (.aload_n 0, 1) := by decide +kernel
theorem dX11_command_196 : decode cX11_command 196 = .ok (.aload_n 0, 1) := by decide +kernel
theorem dX11_command_197 : decode cX11_command 197 = .ok (.getfield 25, 3) := by decide +kernel
theorem dX11_command_200 : decode cX11_command 200 = .ok (.iconst 0, 1) := by decide +kernel
theorem dX11_command_201 : decode cX11_command 201 = .ok (.iaload, 1) := by decide +kernel
theorem dX11_command_202 : decode cX11_command 202 = .ok (.aload_n 0, 1) := by decide +kernel
theorem dX11_command_203 : decode cX11_command 203 = .ok (.getfield 25, 3) := by decide +kernel
theorem dX11_command_206 : decode cX11_command 206 = .ok (.iconst 1, 1) := by decide +kernel
theorem dX11_command_207 : decode cX11_command 207 = .ok (.iaload, 1) := by decide +kernel
theorem dX11_command_208 : decode cX11_command 208 = .ok (.aload_n 0, 1) := by decide +kernel
theorem dX11_command_209 : decode cX11_command 209 = .ok (.getfield 25, 3) := by decide +kernel
theorem dX11_command_212 : decode cX11_command 212 = .ok (.iconst 2, 1) := by decide +kernel
theorem dX11_command_213 : decode cX11_command 213 = .ok (.iaload, 1) := by decide +kernel
theorem dX11_command_214 : decode cX11_command 214 = .ok (.invokevirtual 133, 3) := by decide +kernel
theorem dX11_command_217 : decode cX11_command 217 = .ok (.ireturn, 1) := by decide +kernel
theorem dX11_command_218 : decode cX11_command 218 = .ok (.aload_n 0, 1) := by decide +kernel
theorem dX11_command_219 : decode cX11_command 219 = .ok (.aload_n 0, 1) := by decide +kernel
theorem dX11_command_220 : decode cX11_command 220 = .ok (.getfield 25, 3) := by decide +kernel
theorem dX11_command_223 : decode cX11_command 223 = .ok (.iconst 0, 1) := by decide +kernel
theorem dX11_command_224 : decode cX11_command 224 = .ok (.iaload, 1) := by decide +kernel
theorem dX11_command_225 : decode cX11_command 225 = .ok (.invokevirtual 145, 3) := by decide +kernel
theorem dX11_command_228 : decode cX11_command 228 = .ok (.ireturn, 1) := by decide +kernel
theorem dX11_does_0 : decode cX11_does 0 = .ok (.aload_n 0, 1) := by decide +kernel
theorem dX11_does_1 : decode cX11_does 1 = .ok (.iconst 0, 1) := by decide +kernel
theorem dX11_does_2 : decode cX11_does 2 = .ok (.putfield 170, 3) := by decide +kernel
theorem dX11_does_5 : decode cX11_does 5 = .ok (.iconst 0, 1) := by decide +kernel
theorem dX11_does_6 : decode cX11_does 6 = .ok (.istore_n 1, 1) := by decide +kernel
theorem dX11_does_7 : decode cX11_does 7 = .ok (.aload_n 0, 1) := by decide +kernel
theorem dX11_does_8 : decode cX11_does 8 = .ok (.getfield 170, 3) := by decide +kernel
theorem dX11_does_11 : decode cX11_does 11 = .ok (.aload_n 0, 1) := by decide +kernel
theorem dX11_does_12 : decode cX11_does 12 = .ok (.getfield 161, 3) := by decide +kernel
theorem dX11_does_15 : decode cX11_does 15 = .ok (.if_icmp .ge 61, 3) := by decide +kernel
theorem dX11_does_18 : decode cX11_does 18 = .ok (.aload_n 0, 1) := by decide +kernel
theorem dX11_does_19 : decode cX11_does 19 = .ok (.getfield 170, 3) := by decide +kernel
theorem dX11_does_22 : decode cX11_does 22 = .ok (.istore_n 2, 1) := by decide +kernel
theorem dX11_does_23 : decode cX11_does 23 = .ok (.aload_n 0, 1) := by decide +kernel
theorem dX11_does_24 : decode cX11_does 24 = .ok (.invokevirtual 186, 3) := by decide +kernel
theorem dX11_does_27 : decode cX11_does 27 = .ok (.istore_n 3, 1) := by decide +kernel
theorem dX11_does_28 : decode cX11_does 28 = .ok (.aload_n 0, 1) := by decide +kernel
theorem dX11_does_29 : decode cX11_does 29 = .ok (.aload_n 0, 1) := by decide +kernel
theorem dX11_does_30 : decode cX11_does 30 = .ok (.getfield 173, 3) := by decide +kernel
theorem dX11_does_33 : decode cX11_does 33 = .ok (.ifCond .ne 7, 3) := by decide +kernel
theorem dX11_does_36 : decode cX11_does 36 = .ok (.iconst 1, 1) := by decide +kernel
theorem dX11_does_37 : decode cX11_does 37 = .ok (.goto 21, 3) := by decide +kernel
theorem dX11_does_40 : decode cX11_does 40 = .ok (.iload_n 3, 1) := by decide +kernel
theorem dX11_does_41 : decode cX11_does 41 = .ok (.iconst (-1), 1) := by decide +kernel
theorem dX11_does_42 : decode cX11_does 42 = .ok (.if_icmp .ne 7, 3) := by decide +kernel
theorem dX11_does_45 : decode cX11_does 45 = .ok (.iconst 2, 1) := by decide +kernel
theorem dX11_does_46 : decode cX11_does 46 = .ok (.goto 12, 3) := by decide +kernel
theorem dX11_does_49 : decode cX11_does 49 = .ok (.iload_n 3, 1) := by decide +kernel
theorem dX11_does_50 : decode cX11_does 50 = .ok (.ifCond .ge 7, 3) := by decide +kernel
theorem dX11_does_53 : decode cX11_does 53 = .ok (.iconst 3, 1) := by decide +kernel
theorem dX11_does_54 : decode cX11_does 54 = .ok (.goto 4, 3) := by decide +kernel
theorem dX11_does_57 : decode cX11_does 57 = .ok (.iconst 0, 1) := by decide +kernel
theorem dX11_does_58 : decode cX11_does 58 = .ok (.putfield 189, 3) := by decide +kernel
theorem dX11_does_61 : decode cX11_does 61 = .ok (.aload_n 0, 1) := by decide +kernel
theorem dX11_does_62 : decode cX11_does 62 = .ok (.getfield 189, 3) := by decide +kernel
theorem dX11_does_65 : decode cX11_does 65 = .ok (.ifCond .le 5, 3) := by decide +kernel
theorem dX11_does_68 : decode cX11_does 68 = .ok (.iload_n 2, 1) := by decide +kernel
theorem dX11_does_69 : decode cX11_does 69 = .ok (.ireturn, 1) := by decide +kernel
theorem dX11_does_70 : decode cX11_does 70 = .ok (.iinc 1 1, 3) := by decide +kernel
theorem dX11_does_73 : decode cX11_does 73 = .ok (.goto (-66), 3) := by decide +kernel
theorem dX11_does_76 : decode cX11_does 76 = .ok (.iconst (-1), 1) := by decide +kernel
theorem dX11_does_77 : decode cX11_does 77 = .ok (.iload_n 1, 1) := by decide +kernel
theorem dX11_does_78 : decode cX11_does 78 = .ok (.isub, 1) := by decide +kernel
theorem dX11_does_79 : decode cX11_does 79 = .ok (.ireturn, 1) := by decide +kernel
theorem dX11_fault_0 : decode cX11_fault 0 = .ok (.iload_n 1, 1) := by decide +kernel
theorem dX11_fault_1 : decode cX11_fault 1 = .ok (.iconst 0, 1) := by decide +kernel
theorem dX11_fault_2 : decode cX11_fault 2 = .ok (.iconst 1, 1) := by decide +kernel
theorem dX11_fault_3 : decode cX11_fault 3 = .ok (.invokestatic 32, 3) := by decide +kernel
theorem dX11_fault_6 : decode cX11_fault 6 = .ok (.ifCond .ne 5, 3) := by decide +kernel
theorem dX11_fault_9 : decode cX11_fault 9 = .ok (.iconst (-1), 1) := by decide +kernel
theorem dX11_fault_10 : decode cX11_fault 10 = .ok (.ireturn, 1) := by decide +kernel
theorem dX11_fault_11 : decode cX11_fault 11 = .ok (.aload_n 0, 1) := by decide +kernel
theorem dX11_fault_12 : decode cX11_fault 12 = .ok (.invokevirtual 108, 3) := by decide +kernel
theorem dX11_fault_15 : decode cX11_fault 15 = .ok (.aload_n 0, 1) := by decide +kernel
theorem dX11_fault_16 : decode cX11_fault 16 = .ok (.invokevirtual 192, 3) := by decide +kernel
theorem dX11_fault_19 : decode cX11_fault 19 = .ok (.istore_n 2, 1) := by decide +kernel
theorem dX11_fault_20 : decode cX11_fault 20 = .ok (.aload_n 0, 1) := by decide +kernel
theorem dX11_fault_21 : decode cX11_fault 21 = .ok (.invokevirtual 195, 3) := by decide +kernel
theorem dX11_fault_24 : decode cX11_fault 24 = .ok (.iload_n 2, 1) := by decide +kernel
theorem dX11_fault_25 : decode cX11_fault 25 = .ok (.ifCond .ge 8, 3) := by decide +kernel
theorem dX11_fault_28 : decode cX11_fault 28 = .ok (.bipush (-4), 2) := by decide +kernel
theorem dX11_fault_30 : decode cX11_fault 30 = .ok (.goto 15, 3) := by decide +kernel
theorem dX11_fault_33 : decode cX11_fault 33 = .ok (.iload_n 1, 1) := by decide +kernel
theorem dX11_fault_34 : decode cX11_fault 34 = .ok (.ifCond .ne 7, 3) := by decide +kernel
theorem dX11_fault_37 : decode cX11_fault 37 = .ok (.iload_n 2, 1) := by decide +kernel
theorem dX11_fault_38 : decode cX11_fault 38 = .ok (.goto 7, 3) := by decide +kernel
theorem dX11_fault_41 : decode cX11_fault 41 = .ok (.aload_n 0, 1) := by decide +kernel
theorem dX11_fault_42 : decode cX11_fault 42 = .ok (.getfield 189, 3) := by decide +kernel
theorem dX11_fault_45 : decode cX11_fault 45 = .ok (.ireturn, 1) := by decide +kernel
theorem dX11_play_0 : decode cX11_play 0 = .ok (.aload_n 0, 1) := by decide +kernel
theorem dX11_play_1 : decode cX11_play 1 = .ok (.invokevirtual 108, 3) := by decide +kernel
theorem dX11_play_4 : decode cX11_play 4 = .ok (.aload_n 0, 1) := by decide +kernel
theorem dX11_play_5 : decode cX11_play 5 = .ok (.invokevirtual 192, 3) := by decide +kernel
theorem dX11_play_8 : decode cX11_play 8 = .ok (.istore_n 1, 1) := by decide +kernel
theorem dX11_play_9 : decode cX11_play 9 = .ok (.iload_n 1, 1) := by decide +kernel
theorem dX11_play_10 : decode cX11_play 10 = .ok (.ifCond .lt 10, 3) := by decide +kernel
theorem dX11_play_13 : decode cX11_play 13 = .ok (.aload_n 0, 1) := by decide +kernel
theorem dX11_play_14 : decode cX11_play 14 = .ok (.invokevirtual 195, 3) := by decide +kernel
theorem dX11_play_17 : decode cX11_play 17 = .ok (.bipush (-2), 2) := by decide +kernel
theorem dX11_play_19 : decode cX11_play 19 = .ok (.ireturn, 1) := by decide +kernel
theorem dX11_play_20 : decode cX11_play 20 = .ok (.aload_n 0, 1) := by decide +kernel
theorem dX11_play_21 : decode cX11_play 21 = .ok (.iconst (-1), 1) := by decide +kernel
theorem dX11_play_22 : decode cX11_play 22 = .ok (.iload_n 1, 1) := by decide +kernel
theorem dX11_play_23 : decode cX11_play 23 = .ok (.isub, 1) := by decide +kernel
theorem dX11_play_24 : decode cX11_play 24 = .ok (.invokevirtual 114, 3) := by decide +kernel
theorem dX11_play_27 : decode cX11_play 27 = .ok (.ireturn, 1) := by decide +kernel
