theorem dX0_init_0 : decode cX0_init 0 = .ok (.aload_n 0, 1) := by decide +kernel
theorem dX0_init_1 : decode cX0_init 1 = .ok (.invokespecial 3, 3) := by decide +kernel
theorem dX0_init_4 : decode cX0_init 4 = .ok (.aload_n 0, 1) := by decide +kernel
theorem dX0_init_5 : decode cX0_init 5 = .ok (.iconst 5, 1) := by decide +kernel
theorem dX0_init_6 : decode cX0_init 6 = .ok (.anewarray 9, 3) := by decide +kernel
theorem dX0_init_9 : decode cX0_init 9 = .ok (.putfield 11, 3) := by decide +kernel
theorem dX0_init_12 : decode cX0_init 12 = .ok (.iconst 0, 1) := by decide +kernel
theorem dX0_init_13 : decode cX0_init 13 = .ok (.istore_n 1, 1) := by decide +kernel
theorem dX0_init_14 : decode cX0_init 14 = .ok (.iload_n 1, 1) := by decide +kernel
theorem dX0_init_15 : decode cX0_init 15 = .ok (.aload_n 0, 1) := by decide +kernel
theorem dX0_init_16 : decode cX0_init 16 = .ok (.getfield 11, 3) := by decide +kernel
theorem dX0_init_19 : decode cX0_init 19 = .ok (.arraylength, 1) := by decide +kernel
theorem dX0_init_20 : decode cX0_init 20 = .ok (.if_icmp .ge 22, 3) := by decide +kernel
theorem dX0_init_23 : decode cX0_init 23 = .ok (.aload_n 0, 1) := by decide +kernel
theorem dX0_init_24 : decode cX0_init 24 = .ok (.getfield 11, 3) := by decide +kernel
theorem dX0_init_27 : decode cX0_init 27 = .ok (.iload_n 1, 1) := by decide +kernel
theorem dX0_init_28 : decode cX0_init 28 = .ok (.new 9, 3) := by decide +kernel
theorem dX0_init_31 : decode cX0_init 31 = .ok (.dup, 1) := by decide +kernel
theorem dX0_init_32 : decode cX0_init 32 = .ok (.invokespecial 17, 3) := by decide +kernel
theorem dX0_init_35 : decode cX0_init 35 = .ok (.aastore, 1) := by decide +kernel
theorem dX0_init_36 : decode cX0_init 36 = .ok (.iinc 1 1, 3) := by decide +kernel
theorem dX0_init_39 : decode cX0_init 39 = .ok (.goto (-25), 3) := by decide +kernel
theorem dX0_init_42 : decode cX0_init 42 = .ok (.return_, 1) := by decide +kernel
theorem dX0_prepare_0 : decode cX0_prepare 0 = .ok (.aload_n 0, 1) := by decide +kernel
theorem dX0_prepare_1 : decode cX0_prepare 1 = .ok (.getfield 18, 3) := by decide +kernel
theorem dX0_prepare_4 : decode cX0_prepare 4 = .ok (.ifCond .lt 28, 3) := by decide +kernel
theorem dX0_prepare_7 : decode cX0_prepare 7 = .ok (.aload_n 0, 1) := by decide +kernel
theorem dX0_prepare_8 : decode cX0_prepare 8 = .ok (.getfield 18, 3) := by decide +kernel
theorem dX0_prepare_11 : decode cX0_prepare 11 = .ok (.aload_n 0, 1) := by decide +kernel
theorem dX0_prepare_12 : decode cX0_prepare 12 = .ok (.getfield 11, 3) := by decide +kernel
theorem dX0_prepare_15 : decode cX0_prepare 15 = .ok (.arraylength, 1) := by decide +kernel
theorem dX0_prepare_16 : decode cX0_prepare 16 = .ok (.if_icmp .ge 16, 3) := by decide +kernel
theorem dX0_prepare_19 : decode cX0_prepare 19 = .ok (.aload_n 0, 1) := by decide +kernel
theorem dX0_prepare_20 : decode cX0_prepare 20 = .ok (.getfield 11, 3) := by decide +kernel
theorem dX0_prepare_23 : decode cX0_prepare 23 = .ok (.aload_n 0, 1) := by decide +kernel
theorem dX0_prepare_24 : decode cX0_prepare 24 = .ok (.getfield 18, 3) := by decide +kernel
theorem dX0_prepare_27 : decode cX0_prepare 27 = .ok (.aaload, 1) := by decide +kernel
theorem dX0_prepare_28 : decode cX0_prepare 28 = .ok (.aload_n 1, 1) := by decide +kernel
theorem dX0_prepare_29 : decode cX0_prepare 29 = .ok (.invokevirtual 22, 3) := by decide +kernel
theorem dX0_prepare_32 : decode cX0_prepare 32 = .ok (.return_, 1) := by decide +kernel
theorem dX0_keepPrepared_0 : decode cX0_keepPrepared 0 = .ok (.aload_n 0, 1) := by decide +kernel
theorem dX0_keepPrepared_1 : decode cX0_keepPrepared 1 = .ok (.dup, 1) := by decide +kernel
theorem dX0_keepPrepared_2 : decode cX0_keepPrepared 2 = .ok (.getfield 18, 3) := by decide +kernel
theorem dX0_keepPrepared_5 : decode cX0_keepPrepared 5 = .ok (.iconst 1, 1) := by decide +kernel
theorem dX0_keepPrepared_6 : decode cX0_keepPrepared 6 = .ok (.iadd, 1) := by decide +kernel
theorem dX0_keepPrepared_7 : decode cX0_keepPrepared 7 = .ok (.putfield 18, 3) := by decide +kernel
theorem dX0_keepPrepared_10 : decode cX0_keepPrepared 10 = .ok (.aload_n 0, 1) := by decide +kernel
theorem dX0_keepPrepared_11 : decode cX0_keepPrepared 11 = .ok (.getfield 18, 3) := by decide +kernel
theorem dX0_keepPrepared_14 : decode cX0_keepPrepared 14 = .ok (.iconst 4, 1) := by decide +kernel
theorem dX0_keepPrepared_15 : decode cX0_keepPrepared 15 = .ok (.if_icmp .le 7, 3) := by decide +kernel
theorem dX0_keepPrepared_18 : decode cX0_keepPrepared 18 = .ok (.aload_n 0, 1) := by decide +kernel
theorem dX0_keepPrepared_19 : decode cX0_keepPrepared 19 = .ok (.invokevirtual 26, 3) := by decide +kernel
theorem dX0_keepPrepared_22 : decode cX0_keepPrepared 22 = .ok (.return_, 1) := by decide +kernel
theorem dX0_dropOldest_0 : decode cX0_dropOldest 0 = .ok (.iconst 0, 1) := by decide +kernel
theorem dX0_dropOldest_1 : decode cX0_dropOldest 1 = .ok (.istore_n 1, 1) := by decide +kernel
theorem dX0_dropOldest_2 : decode cX0_dropOldest 2 = .ok (.iload_n 1, 1) := by decide +kernel
theorem dX0_dropOldest_3 : decode cX0_dropOldest 3 = .ok (.iconst 1, 1) := by decide +kernel
theorem dX0_dropOldest_4 : decode cX0_dropOldest 4 = .ok (.iadd, 1) := by decide +kernel
theorem dX0_dropOldest_5 : decode cX0_dropOldest 5 = .ok (.aload_n 0, 1) := by decide +kernel
theorem dX0_dropOldest_6 : decode cX0_dropOldest 6 = .ok (.getfield 11, 3) := by decide +kernel
theorem dX0_dropOldest_9 : decode cX0_dropOldest 9 = .ok (.arraylength, 1) := by decide +kernel
theorem dX0_dropOldest_10 : decode cX0_dropOldest 10 = .ok (.if_icmp .ge 39, 3) := by decide +kernel
theorem dX0_dropOldest_13 : decode cX0_dropOldest 13 = .ok (.aload_n 0, 1) := by decide +kernel
theorem dX0_dropOldest_14 : decode cX0_dropOldest 14 = .ok (.getfield 11, 3) := by decide +kernel
theorem dX0_dropOldest_17 : decode cX0_dropOldest 17 = .ok (.iload_n 1, 1) := by decide +kernel
theorem dX0_dropOldest_18 : decode cX0_dropOldest 18 = .ok (.aaload, 1) := by decide +kernel
theorem dX0_dropOldest_19 : decode cX0_dropOldest 19 = .ok (.astore_n 2, 1) := by decide +kernel
theorem dX0_dropOldest_20 : decode cX0_dropOldest 20 = .ok (.aload_n 0, 1) := by decide +kernel
theorem dX0_dropOldest_21 : decode cX0_dropOldest 21 = .ok (.getfield 11, 3) := by decide +kernel
theorem dX0_dropOldest_24 : decode cX0_dropOldest 24 = .ok (.iload_n 1, 1) := by decide +kernel
theorem dX0_dropOldest_25 : decode cX0_dropOldest 25 = .ok (.aload_n 0, 1) := by decide +kernel
theorem dX0_dropOldest_26 : decode cX0_dropOldest 26 = .ok (.getfield 11, 3) := by decide +kernel
theorem dX0_dropOldest_29 : decode cX0_dropOldest 29 = .ok (.iload_n 1, 1) := by decide +kernel
theorem dX0_dropOldest_30 : decode cX0_dropOldest 30 = .ok (.iconst 1, 1) := by decide +kernel
theorem dX0_dropOldest_31 : decode cX0_dropOldest 31 = .ok (.iadd, 1) := by decide +kernel
theorem dX0_dropOldest_32 : decode cX0_dropOldest 32 = .ok (.aaload, 1) := by decide +kernel
theorem dX0_dropOldest_33 : decode cX0_dropOldest 33 = .ok (.aastore, 1) := by decide +kernel
theorem dX0_dropOldest_34 : decode cX0_dropOldest 34 = .ok (.aload_n 0, 1) := by decide +kernel
theorem dX0_dropOldest_35 : decode cX0_dropOldest 35 = .ok (.getfield 11, 3) := by decide +kernel
theorem dX0_dropOldest_38 : decode cX0_dropOldest 38 = .ok (.iload_n 1, 1) := by decide +kernel
theorem dX0_dropOldest_39 : decode cX0_dropOldest 39 = .ok (.iconst 1, 1) := by decide +kernel
theorem dX0_dropOldest_40 : decode cX0_dropOldest 40 = .ok (.iadd, 1) := by decide +kernel
theorem dX0_dropOldest_41 : decode cX0_dropOldest 41 = .ok (.aload_n 2, 1) := by decide +kernel
theorem dX0_dropOldest_42 : decode cX0_dropOldest 42 = .ok (.aastore, 1) := by decide +kernel
theorem dX0_dropOldest_43 : decode cX0_dropOldest 43 = .ok (.iinc 1 1, 3) := by decide +kernel
theorem dX0_dropOldest_46 : decode cX0_dropOldest 46 = .ok (.goto (-44), 3) := by decide +kernel
theorem dX0_dropOldest_49 : decode cX0_dropOldest 49 = .ok (.aload_n 0, 1) := by decide +kernel
theorem dX0_dropOldest_50 : decode cX0_dropOldest 50 = .ok (.iconst 4, 1) := by decide +kernel
theorem dX0_dropOldest_51 : decode cX0_dropOldest 51 = .ok (.putfield 18, 3) := by decide +kernel
theorem dX0_dropOldest_54 : decode cX0_dropOldest 54 = .ok (.return_, 1) := by decide +kernel
theorem dX0_restore_0 : decode cX0_restore 0 = .ok (.aload_n 0, 1) := by decide +kernel
theorem dX0_restore_1 : decode cX0_restore 1 = .ok (.getfield 18, 3) := by decide +kernel
theorem dX0_restore_4 : decode cX0_restore 4 = .ok (.ifCond .le 38, 3) := by decide +kernel
theorem dX0_restore_7 : decode cX0_restore 7 = .ok (.aload_n 0, 1) := by decide +kernel
theorem dX0_restore_8 : decode cX0_restore 8 = .ok (.getfield 18, 3) := by decide +kernel
theorem dX0_restore_11 : decode cX0_restore 11 = .ok (.aload_n 0, 1) := by decide +kernel
theorem dX0_restore_12 : decode cX0_restore 12 = .ok (.getfield 11, 3) := by decide +kernel
theorem dX0_restore_15 : decode cX0_restore 15 = .ok (.arraylength, 1) := by decide +kernel
theorem dX0_restore_16 : decode cX0_restore 16 = .ok (.if_icmp .gt 26, 3) := by decide +kernel
theorem dX0_restore_19 : decode cX0_restore 19 = .ok (.aload_n 0, 1) := by decide +kernel
theorem dX0_restore_20 : decode cX0_restore 20 = .ok (.dup, 1) := by decide +kernel
theorem dX0_restore_21 : decode cX0_restore 21 = .ok (.getfield 18, 3) := by decide +kernel
theorem dX0_restore_24 : decode cX0_restore 24 = .ok (.iconst 1, 1) := by decide +kernel
theorem dX0_restore_25 : decode cX0_restore 25 = .ok (.isub, 1) := by decide +kernel
theorem dX0_restore_26 : decode cX0_restore 26 = .ok (.putfield 18, 3) := by decide +kernel
theorem dX0_restore_29 : decode cX0_restore 29 = .ok (.aload_n 1, 1) := by decide +kernel
theorem dX0_restore_30 : decode cX0_restore 30 = .ok (.aload_n 0, 1) := by decide +kernel
theorem dX0_restore_31 : decode cX0_restore 31 = .ok (.getfield 11, 3) := by decide +kernel
theorem dX0_restore_34 : decode cX0_restore 34 = .ok (.aload_n 0, 1) := by decide +kernel
theorem dX0_restore_35 : decode cX0_restore 35 = .ok (.getfield 18, 3) := by decide +kernel
theorem dX0_restore_38 : decode cX0_restore 38 = .ok (.aaload, 1) := by decide +kernel
theorem dX0_restore_39 : decode cX0_restore 39 = .ok (.invokevirtual 22, 3) := by decide +kernel
theorem dX0_restore_42 : decode cX0_restore 42 = .ok (.return_, 1) := by decide +kernel
theorem dX1_init_0 : decode cX1_init 0 = .ok (.aload_n 0, 1) := by decide +kernel
theorem dX1_init_1 : decode cX1_init 1 = .ok (.invokespecial 3, 3) := by decide +kernel
theorem dX1_init_4 : decode cX1_init 4 = .ok (.aload_n 0, 1) := by decide +kernel
theorem dX1_init_5 : decode cX1_init 5 = .ok (.new 9, 3) := by decide +kernel
theorem dX1_init_8 : decode cX1_init 8 = .ok (.dup, 1) := by decide +kernel
theorem dX1_init_9 : decode cX1_init 9 = .ok (.invokespecial 11, 3) := by decide +kernel
theorem dX1_init_12 : decode cX1_init 12 = .ok (.putfield 12, 3) := by decide +kernel
theorem dX1_init_15 : decode cX1_init 15 = .ok (.aload_n 0, 1) := by decide +kernel
theorem dX1_init_16 : decode cX1_init 16 = .ok (.bipush 8, 2) := by decide +kernel
theorem dX1_init_18 : decode cX1_init 18 = .ok (.anewarray 18, 3) := by decide +kernel
theorem dX1_init_21 : decode cX1_init 21 = .ok (.putfield 20, 3) := by decide +kernel
theorem dX1_init_24 : decode cX1_init 24 = .ok (.aload_n 0, 1) := by decide +kernel
theorem dX1_init_25 : decode cX1_init 25 = .ok (.new 24, 3) := by decide +kernel
theorem dX1_init_28 : decode cX1_init 28 = .ok (.dup, 1) := by decide +kernel
theorem dX1_init_29 : decode cX1_init 29 = .ok (.invokespecial 26, 3) := by decide +kernel
theorem dX1_init_32 : decode cX1_init 32 = .ok (.putfield 27, 3) := by decide +kernel
theorem dX1_init_35 : decode cX1_init 35 = .ok (.aload_n 0, 1) := by decide +kernel
theorem dX1_init_36 : decode cX1_init 36 = .ok (.bipush 10, 2) := by decide +kernel
theorem dX1_init_38 : decode cX1_init 38 = .ok (.putfield 31, 3) := by decide +kernel
theorem dX1_init_41 : decode cX1_init 41 = .ok (.aload_n 0, 1) := by decide +kernel
theorem dX1_init_42 : decode cX1_init 42 = .ok (.bipush 30, 2) := by decide +kernel
theorem dX1_init_44 : decode cX1_init 44 = .ok (.putfield 35, 3) := by decide +kernel
theorem dX1_init_47 : decode cX1_init 47 = .ok (.iconst 0, 1) := by decide +kernel
theorem dX1_init_48 : decode cX1_init 48 = .ok (.istore_n 1, 1) := by decide +kernel
theorem dX1_init_49 : decode cX1_init 49 = .ok (.iload_n 1, 1) := by decide +kernel
theorem dX1_init_50 : decode cX1_init 50 = .ok (.aload_n 0, 1) := by decide +kernel
theorem dX1_init_51 : decode cX1_init 51 = .ok (.getfield 20, 3) := by decide +kernel
theorem dX1_init_54 : decode cX1_init 54 = .ok (.arraylength, 1) := by decide +kernel
theorem dX1_init_55 : decode cX1_init 55 = .ok (.if_icmp .ge 22, 3) := by decide +kernel
theorem dX1_init_58 : decode cX1_init 58 = .ok (.aload_n 0, 1) := by decide +kernel
theorem dX1_init_59 : decode cX1_init 59 = .ok (.getfield 20, 3) := by decide +kernel
theorem dX1_init_62 : decode cX1_init 62 = .ok (.iload_n 1, 1) := by decide +kernel
theorem dX1_init_63 : decode cX1_init 63 = .ok (.new 18, 3) := by decide +kernel
theorem dX1_init_66 : decode cX1_init 66 = .ok (.dup, 1) := by decide +kernel
theorem dX1_init_67 : decode cX1_init 67 = .ok (.invokespecial 38, 3) := by decide +kernel
theorem dX1_init_70 : decode cX1_init 70 = .ok (.aastore, 1) := by decide +kernel
theorem dX1_init_71 : decode cX1_init 71 = .ok (.iinc 1 1, 3) := by decide +kernel
theorem dX1_init_74 : decode cX1_init 74 = .ok (.goto (-25), 3) := by decide +kernel
theorem dX1_init_77 : decode cX1_init 77 = .ok (.return_, 1) := by decide +kernel
theorem dX1_copyFrom_0 : decode cX1_copyFrom 0 = .ok (.aload_n 0, 1) := by decide +kernel
theorem dX1_copyFrom_1 : decode cX1_copyFrom 1 = .ok (.getfield 12, 3) := by decide +kernel
theorem dX1_copyFrom_4 : decode cX1_copyFrom 4 = .ok (.aload_n 1, 1) := by decide +kernel
theorem dX1_copyFrom_5 : decode cX1_copyFrom 5 = .ok (.getfield 12, 3) := by decide +kernel
theorem dX1_copyFrom_8 : decode cX1_copyFrom 8 = .ok (.invokevirtual 39, 3) := by decide +kernel
theorem dX1_copyFrom_11 : decode cX1_copyFrom 11 = .ok (.iconst 0, 1) := by decide +kernel
theorem dX1_copyFrom_12 : decode cX1_copyFrom 12 = .ok (.istore_n 2, 1) := by decide +kernel
theorem dX1_copyFrom_13 : decode cX1_copyFrom 13 = .ok (.iload_n 2, 1) := by decide +kernel
theorem dX1_copyFrom_14 : decode cX1_copyFrom 14 = .ok (.aload_n 0, 1) := by decide +kernel
theorem dX1_copyFrom_15 : decode cX1_copyFrom 15 = .ok (.getfield 20, 3) := by decide +kernel
theorem dX1_copyFrom_18 : decode cX1_copyFrom 18 = .ok (.arraylength, 1) := by decide +kernel
theorem dX1_copyFrom_19 : decode cX1_copyFrom 19 = .ok (.if_icmp .ge 33, 3) := by decide +kernel
theorem dX1_copyFrom_22 : decode cX1_copyFrom 22 = .ok (.iload_n 2, 1) := by decide +kernel
theorem dX1_copyFrom_23 : decode cX1_copyFrom 23 = .ok (.aload_n 1, 1) := by decide +kernel
theorem dX1_copyFrom_24 : decode cX1_copyFrom 24 = .ok (.getfield 20, 3) := by decide +kernel
theorem dX1_copyFrom_27 : decode cX1_copyFrom 27 = .ok (.arraylength, 1) := by decide +kernel
theorem dX1_copyFrom_28 : decode cX1_copyFrom 28 = .ok (.if_icmp .ge 24, 3) := by decide +kernel
theorem dX1_copyFrom_31 : decode cX1_copyFrom 31 = .ok (.aload_n 0, 1) := by decide +kernel
theorem dX1_copyFrom_32 : decode cX1_copyFrom 32 = .ok (.getfield 20, 3) := by decide +kernel
theorem dX1_copyFrom_35 : decode cX1_copyFrom 35 = .ok (.iload_n 2, 1) := by decide +kernel
theorem dX1_copyFrom_36 : decode cX1_copyFrom 36 = .ok (.aaload, 1) := by decide +kernel
theorem dX1_copyFrom_37 : decode cX1_copyFrom 37 = .ok (.aload_n 1, 1) := by decide +kernel
theorem dX1_copyFrom_38 : decode cX1_copyFrom 38 = .ok (.getfield 20, 3) := by decide +kernel
theorem dX1_copyFrom_41 : decode cX1_copyFrom 41 = .ok (.iload_n 2, 1) := by decide +kernel
theorem dX1_copyFrom_42 : decode cX1_copyFrom 42 = .ok (.aaload, 1) := by decide +kernel
theorem dX1_copyFrom_43 : decode cX1_copyFrom 43 = .ok (.invokevirtual 43, 3) := by decide +kernel
theorem dX1_copyFrom_46 : decode cX1_copyFrom 46 = .ok (.iinc 2 1, 3) := by decide +kernel
theorem dX1_copyFrom_49 : decode cX1_copyFrom 49 = .ok (.goto (-36), 3) := by decide +kernel
theorem dX1_copyFrom_52 : decode cX1_copyFrom 52 = .ok (.aload_n 0, 1) := by decide +kernel
theorem dX1_copyFrom_53 : decode cX1_copyFrom 53 = .ok (.getfield 27, 3) := by decide +kernel
theorem dX1_copyFrom_56 : decode cX1_copyFrom 56 = .ok (.aload_n 1, 1) := by decide +kernel
theorem dX1_copyFrom_57 : decode cX1_copyFrom 57 = .ok (.getfield 27, 3) := by decide +kernel
theorem dX1_copyFrom_60 : decode cX1_copyFrom 60 = .ok (.invokevirtual 46, 3) := by decide +kernel
theorem dX1_copyFrom_63 : decode cX1_copyFrom 63 = .ok (.aload_n 0, 1) := by decide +kernel
theorem dX1_copyFrom_64 : decode cX1_copyFrom 64 = .ok (.aload_n 1, 1) := by decide +kernel
theorem dX1_copyFrom_65 : decode cX1_copyFrom 65 = .ok (.getfield 49, 3) := by decide +kernel
theorem dX1_copyFrom_68 : decode cX1_copyFrom 68 = .ok (.putfield 49, 3) := by decide +kernel
theorem dX1_copyFrom_71 : decode cX1_copyFrom 71 = .ok (.aload_n 0, 1) := by decide +kernel
theorem dX1_copyFrom_72 : decode cX1_copyFrom 72 = .ok (.aload_n 1, 1) := by decide +kernel
theorem dX1_copyFrom_73 : decode cX1_copyFrom 73 = .ok (.getfield 31, 3) := by decide +kernel
theorem dX1_copyFrom_76 : decode cX1_copyFrom 76 = .ok (.putfield 31, 3) := by decide +kernel
theorem dX1_copyFrom_79 : decode cX1_copyFrom 79 = .ok (.aload_n 0, 1) := by decide +kernel
theorem dX1_copyFrom_80 : decode cX1_copyFrom 80 = .ok (.aload_n 1, 1) := by decide +kernel
theorem dX1_copyFrom_81 : decode cX1_copyFrom 81 = .ok (.getfield 35, 3) := by decide +kernel
theorem dX1_copyFrom_84 : decode cX1_copyFrom 84 = .ok (.putfield 35, 3) := by decide +kernel
theorem dX1_copyFrom_87 : decode cX1_copyFrom 87 = .ok (.return_, 1) := by decide +kernel
theorem dX1_isOpen_0 : decode cX1_isOpen 0 = .ok (.iload_n 1, 1) := by decide +kernel
theorem dX1_isOpen_1 : decode cX1_isOpen 1 = .ok (.ifCond .lt 28, 3) := by decide +kernel
theorem dX1_isOpen_4 : decode cX1_isOpen 4 = .ok (.iload_n 1, 1) := by decide +kernel
theorem dX1_isOpen_5 : decode cX1_isOpen 5 = .ok (.aload_n 0, 1) := by decide +kernel
theorem dX1_isOpen_6 : decode cX1_isOpen 6 = .ok (.getfield 20, 3) := by decide +kernel
theorem dX1_isOpen_9 : decode cX1_isOpen 9 = .ok (.arraylength, 1) := by decide +kernel
theorem dX1_isOpen_10 : decode cX1_isOpen 10 = .ok (.if_icmp .ge 19, 3) := by decide +kernel
theorem dX1_isOpen_13 : decode cX1_isOpen 13 = .ok (.aload_n 0, 1) := by decide +kernel
theorem dX1_isOpen_14 : decode cX1_isOpen 14 = .ok (.getfield 20, 3) := by decide +kernel
theorem dX1_isOpen_17 : decode cX1_isOpen 17 = .ok (.iload_n 1, 1) := by decide +kernel
theorem dX1_isOpen_18 : decode cX1_isOpen 18 = .ok (.aaload, 1) := by decide +kernel
theorem dX1_isOpen_19 : decode cX1_isOpen 19 = .ok (.getfield 52, 3) := by decide +kernel
theorem dX1_isOpen_22 : decode cX1_isOpen 22 = .ok (.ifCond .eq 7, 3) := by decide +kernel
theorem dX1_isOpen_25 : decode cX1_isOpen 25 = .ok (.iconst 1, 1) := by decide +kernel
theorem dX1_isOpen_26 : decode cX1_isOpen 26 = .ok (.goto 4, 3) := by decide +kernel
theorem dX1_isOpen_29 : decode cX1_isOpen 29 = .ok (.iconst 0, 1) := by decide +kernel
theorem dX1_isOpen_30 : decode cX1_isOpen 30 = .ok (.ireturn, 1) := by decide +kernel
theorem dX1_openIncidents_0 : decode cX1_openIncidents 0 = .ok (.iconst 0, 1) := by decide +kernel
theorem dX1_openIncidents_1 : decode cX1_openIncidents 1 = .ok (.istore_n 1, 1) := by decide +kernel
theorem dX1_openIncidents_2 : decode cX1_openIncidents 2 = .ok (.iconst 0, 1) := by decide +kernel
theorem dX1_openIncidents_3 : decode cX1_openIncidents 3 = .ok (.istore_n 2, 1) := by decide +kernel
theorem dX1_openIncidents_4 : decode cX1_openIncidents 4 = .ok (.iload_n 2, 1) := by decide +kernel
theorem dX1_openIncidents_5 : decode cX1_openIncidents 5 = .ok (.aload_n 0, 1) := by decide +kernel
theorem dX1_openIncidents_6 : decode cX1_openIncidents 6 = .ok (.getfield 20, 3) := by decide +kernel
theorem dX1_openIncidents_9 : decode cX1_openIncidents 9 = .ok (.arraylength, 1) := by decide +kernel
theorem dX1_openIncidents_10 : decode cX1_openIncidents 10 = .ok (.if_icmp .ge 24, 3) := by decide +kernel
theorem dX1_openIncidents_13 : decode cX1_openIncidents 13 = .ok (.aload_n 0, 1) := by decide +kernel
theorem dX1_openIncidents_14 : decode cX1_openIncidents 14 = .ok (.getfield 20, 3) := by decide +kernel
theorem dX1_openIncidents_17 : decode cX1_openIncidents 17 = .ok (.iload_n 2, 1) := by decide +kernel
theorem dX1_openIncidents_18 : decode cX1_openIncidents 18 = .ok (.aaload, 1) := by decide +kernel
theorem dX1_openIncidents_19 : decode cX1_openIncidents 19 = .ok (.getfield 52, 3) := by decide +kernel
theorem dX1_openIncidents_22 : decode cX1_openIncidents 22 = .ok (.ifCond .eq 6, 3) := by decide +kernel
theorem dX1_openIncidents_25 : decode cX1_openIncidents 25 = .ok (.iinc 1 1, 3) := by decide +kernel
theorem dX1_openIncidents_28 : decode cX1_openIncidents 28 = .ok (.iinc 2 1, 3) := by decide +kernel
theorem dX1_openIncidents_31 : decode cX1_openIncidents 31 = .ok (.goto (-27), 3) := by decide +kernel
theorem dX1_openIncidents_34 : decode cX1_openIncidents 34 = .ok (.iload_n 1, 1) := by decide +kernel
theorem dX1_openIncidents_35 : decode cX1_openIncidents 35 = .ok (.ireturn, 1) := by decide +kernel
theorem dX1_acknowledgedIncidents_0 : decode cX1_acknowledgedIncidents 0 = .ok (.iconst 0, 1) := by decide +kernel
theorem dX1_acknowledgedIncidents_1 : decode cX1_acknowledgedIncidents 1 = .ok (.istore_n 1, 1) := by decide +kernel
theorem dX1_acknowledgedIncidents_2 : decode cX1_acknowledgedIncidents 2 = .ok (.iconst 0, 1) := by decide +kernel
theorem dX1_acknowledgedIncidents_3 : decode cX1_acknowledgedIncidents 3 = .ok (.istore_n 2, 1) := by decide +kernel
theorem dX1_acknowledgedIncidents_4 : decode cX1_acknowledgedIncidents 4 = .ok (.iload_n 2, 1) := by decide +kernel
theorem dX1_acknowledgedIncidents_5 : decode cX1_acknowledgedIncidents 5 = .ok (.aload_n 0, 1) := by decide +kernel
theorem dX1_acknowledgedIncidents_6 : decode cX1_acknowledgedIncidents 6 = .ok (.getfield 20, 3) := by decide +kernel
theorem dX1_acknowledgedIncidents_9 : decode cX1_acknowledgedIncidents 9 = .ok (.arraylength, 1) := by decide +kernel
theorem dX1_acknowledgedIncidents_10 : decode cX1_acknowledgedIncidents 10 = .ok (.if_icmp .ge 36, 3) := by decide +kernel
theorem dX1_acknowledgedIncidents_13 : decode cX1_acknowledgedIncidents 13 = .ok (.aload_n 0, 1) := by decide +kernel
theorem dX1_acknowledgedIncidents_14 : decode cX1_acknowledgedIncidents 14 = .ok (.getfield 20, 3) := by decide +kernel
theorem dX1_acknowledgedIncidents_17 : decode cX1_acknowledgedIncidents 17 = .ok (.iload_n 2, 1) := by decide +kernel
theorem dX1_acknowledgedIncidents_18 : decode cX1_acknowledgedIncidents 18 = .ok (.aaload, 1) := by decide +kernel
theorem dX1_acknowledgedIncidents_19 : decode cX1_acknowledgedIncidents 19 = .ok (.getfield 52, 3) := by decide +kernel
theorem dX1_acknowledgedIncidents_22 : decode cX1_acknowledgedIncidents 22 = .ok (.ifCond .eq 18, 3) := by decide +kernel
theorem dX1_acknowledgedIncidents_25 : decode cX1_acknowledgedIncidents 25 = .ok (.aload_n 0, 1) := by decide +kernel
theorem dX1_acknowledgedIncidents_26 : decode cX1_acknowledgedIncidents 26 = .ok (.getfield 20, 3) := by decide +kernel
theorem dX1_acknowledgedIncidents_29 : decode cX1_acknowledgedIncidents 29 = .ok (.iload_n 2, 1) := by decide +kernel
theorem dX1_acknowledgedIncidents_30 : decode cX1_acknowledgedIncidents 30 = .ok (.aaload, 1) := by decide +kernel
theorem dX1_acknowledgedIncidents_31 : decode cX1_acknowledgedIncidents 31 = .ok (.getfield 56, 3) := by decide +kernel
theorem dX1_acknowledgedIncidents_34 : decode cX1_acknowledgedIncidents 34 = .ok (.ifCond .eq 6, 3) := by decide +kernel
theorem dX1_acknowledgedIncidents_37 : decode cX1_acknowledgedIncidents 37 = .ok (.iinc 1 1, 3) := by decide +kernel
theorem dX1_acknowledgedIncidents_40 : decode cX1_acknowledgedIncidents 40 = .ok (.iinc 2 1, 3) := by decide +kernel
theorem dX1_acknowledgedIncidents_43 : decode cX1_acknowledgedIncidents 43 = .ok (.goto (-39), 3) := by decide +kernel
theorem dX1_acknowledgedIncidents_46 : decode cX1_acknowledgedIncidents 46 = .ok (.iload_n 1, 1) := by decide +kernel
theorem dX1_acknowledgedIncidents_47 : decode cX1_acknowledgedIncidents 47 = .ok (.ireturn, 1) := by decide +kernel
theorem dX1_ownedBy_0 : decode cX1_ownedBy 0 = .ok (.iconst 0, 1) := by decide +kernel
theorem dX1_ownedBy_1 : decode cX1_ownedBy 1 = .ok (.istore_n 3, 1) := by decide +kernel
theorem dX1_ownedBy_2 : decode cX1_ownedBy 2 = .ok (.iconst 0, 1) := by decide +kernel
theorem dX1_ownedBy_3 : decode cX1_ownedBy 3 = .ok (.istore 4, 2) := by decide +kernel
theorem dX1_ownedBy_5 : decode cX1_ownedBy 5 = .ok (.iload 4, 2) := by decide +kernel
theorem dX1_ownedBy_7 : decode cX1_ownedBy 7 = .ok (.aload_n 0, 1) := by decide +kernel
theorem dX1_ownedBy_8 : decode cX1_ownedBy 8 = .ok (.getfield 20, 3) := by decide +kernel
theorem dX1_ownedBy_11 : decode cX1_ownedBy 11 = .ok (.arraylength, 1) := by decide +kernel
theorem dX1_ownedBy_12 : decode cX1_ownedBy 12 = .ok (.if_icmp .ge 50, 3) := by decide +kernel
theorem dX1_ownedBy_15 : decode cX1_ownedBy 15 = .ok (.aload_n 0, 1) := by decide +kernel
theorem dX1_ownedBy_16 : decode cX1_ownedBy 16 = .ok (.getfield 20, 3) := by decide +kernel
theorem dX1_ownedBy_19 : decode cX1_ownedBy 19 = .ok (.iload 4, 2) := by decide +kernel
theorem dX1_ownedBy_21 : decode cX1_ownedBy 21 = .ok (.aaload, 1) := by decide +kernel
theorem dX1_ownedBy_22 : decode cX1_ownedBy 22 = .ok (.astore 5, 2) := by decide +kernel
theorem dX1_ownedBy_24 : decode cX1_ownedBy 24 = .ok (.aload 5, 2) := by decide +kernel
theorem dX1_ownedBy_26 : decode cX1_ownedBy 26 = .ok (.getfield 52, 3) := by decide +kernel
theorem dX1_ownedBy_29 : decode cX1_ownedBy 29 = .ok (.ifCond .eq 27, 3) := by decide +kernel
theorem dX1_ownedBy_32 : decode cX1_ownedBy 32 = .ok (.aload 5, 2) := by decide +kernel
theorem dX1_ownedBy_34 : decode cX1_ownedBy 34 = .ok (.getfield 59, 3) := by decide +kernel
theorem dX1_ownedBy_37 : decode cX1_ownedBy 37 = .ok (.iload_n 1, 1) := by decide +kernel
theorem dX1_ownedBy_38 : decode cX1_ownedBy 38 = .ok (.if_icmp .ne 18, 3) := by decide +kernel
theorem dX1_ownedBy_41 : decode cX1_ownedBy 41 = .ok (.aload 5, 2) := by decide +kernel
theorem dX1_ownedBy_43 : decode cX1_ownedBy 43 = .ok (.getfield 56, 3) := by decide +kernel
theorem dX1_ownedBy_46 : decode cX1_ownedBy 46 = .ok (.ifCond .ne 7, 3) := by decide +kernel
theorem dX1_ownedBy_49 : decode cX1_ownedBy 49 = .ok (.iload_n 2, 1) := by decide +kernel
theorem dX1_ownedBy_50 : decode cX1_ownedBy 50 = .ok (.ifCond .ne 6, 3) := by decide +kernel
theorem dX1_ownedBy_53 : decode cX1_ownedBy 53 = .ok (.iinc 3 1, 3) := by decide +kernel
theorem dX1_ownedBy_56 : decode cX1_ownedBy 56 = .ok (.iinc 4 1, 3) := by decide +kernel
theorem dX1_ownedBy_59 : decode cX1_ownedBy 59 = .ok (.goto (-54), 3) := by decide +kernel
theorem dX1_ownedBy_62 : decode cX1_ownedBy 62 = .ok (.iload_n 3, 1) := by decide +kernel
theorem dX1_ownedBy_63 : decode cX1_ownedBy 63 = .ok (.ireturn, 1) := by decide +kernel
theorem dX1_putStandIn_0 : decode cX1_putStandIn 0 = .ok (.aload_n 0, 1) := by decide +kernel
theorem dX1_putStandIn_1 : decode cX1_putStandIn 1 = .ok (.getfield 12, 3) := by decide +kernel
theorem dX1_putStandIn_4 : decode cX1_putStandIn 4 = .ok (.iload_n 1, 1) := by decide +kernel
theorem dX1_putStandIn_5 : decode cX1_putStandIn 5 = .ok (.invokevirtual 62, 3) := by decide +kernel
theorem dX1_putStandIn_8 : decode cX1_putStandIn 8 = .ok (.ifCond .eq 25, 3) := by decide +kernel
theorem dX1_putStandIn_11 : decode cX1_putStandIn 11 = .ok (.aload_n 0, 1) := by decide +kernel
theorem dX1_putStandIn_12 : decode cX1_putStandIn 12 = .ok (.getfield 12, 3) := by decide +kernel
theorem dX1_putStandIn_15 : decode cX1_putStandIn 15 = .ok (.iload_n 2, 1) := by decide +kernel
theorem dX1_putStandIn_16 : decode cX1_putStandIn 16 = .ok (.invokevirtual 66, 3) := by decide +kernel
theorem dX1_putStandIn_19 : decode cX1_putStandIn 19 = .ok (.ifCond .eq 14, 3) := by decide +kernel
theorem dX1_putStandIn_22 : decode cX1_putStandIn 22 = .ok (.iload_n 3, 1) := by decide +kernel
theorem dX1_putStandIn_23 : decode cX1_putStandIn 23 = .ok (.iconst 1, 1) := by decide +kernel
theorem dX1_putStandIn_24 : decode cX1_putStandIn 24 = .ok (.if_icmp .lt 9, 3) := by decide +kernel
theorem dX1_putStandIn_27 : decode cX1_putStandIn 27 = .ok (.iload_n 3, 1) := by decide +kernel
theorem dX1_putStandIn_28 : decode cX1_putStandIn 28 = .ok (.bipush 99, 2) := by decide +kernel
theorem dX1_putStandIn_30 : decode cX1_putStandIn 30 = .ok (.if_icmp .le 5, 3) := by decide +kernel
theorem dX1_putStandIn_33 : decode cX1_putStandIn 33 = .ok (.iconst (-1), 1) := by decide +kernel
theorem dX1_putStandIn_34 : decode cX1_putStandIn 34 = .ok (.ireturn, 1) := by decide +kernel
theorem dX1_putStandIn_35 : decode cX1_putStandIn 35 = .ok (.aload_n 0, 1) := by decide +kernel
theorem dX1_putStandIn_36 : decode cX1_putStandIn 36 = .ok (.getfield 12, 3) := by decide +kernel
theorem dX1_putStandIn_39 : decode cX1_putStandIn 39 = .ok (.iload_n 1, 1) := by decide +kernel
theorem dX1_putStandIn_40 : decode cX1_putStandIn 40 = .ok (.iload_n 2, 1) := by decide +kernel
theorem dX1_putStandIn_41 : decode cX1_putStandIn 41 = .ok (.aload_n 0, 1) := by decide +kernel
theorem dX1_putStandIn_42 : decode cX1_putStandIn 42 = .ok (.getfield 49, 3) := by decide +kernel
theorem dX1_putStandIn_45 : decode cX1_putStandIn 45 = .ok (.aload_n 0, 1) := by decide +kernel
theorem dX1_putStandIn_46 : decode cX1_putStandIn 46 = .ok (.getfield 49, 3) := by decide +kernel
theorem dX1_putStandIn_49 : decode cX1_putStandIn 49 = .ok (.iload_n 3, 1) := by decide +kernel
theorem dX1_putStandIn_50 : decode cX1_putStandIn 50 = .ok (.bipush 60, 2) := by decide +kernel
theorem dX1_putStandIn_52 : decode cX1_putStandIn 52 = .ok (.imul, 1) := by decide +kernel
theorem dX1_putStandIn_53 : decode cX1_putStandIn 53 = .ok (.iadd, 1) := by decide +kernel
theorem dX1_putStandIn_54 : decode cX1_putStandIn 54 = .ok (.invokevirtual 69, 3) := by decide +kernel
theorem dX1_putStandIn_57 : decode cX1_putStandIn 57 = .ok (.ireturn, 1) := by decide +kernel
theorem dX1_putSetting_0 : decode cX1_putSetting 0 = .ok (.iload_n 1, 1) := by decide +kernel
theorem dX1_putSetting_1 : decode cX1_putSetting 1 = .ok (.ifCond .ne 26, 3) := by decide +kernel
theorem dX1_putSetting_4 : decode cX1_putSetting 4 = .ok (.iload_n 2, 1) := by decide +kernel
theorem dX1_putSetting_5 : decode cX1_putSetting 5 = .ok (.iconst 1, 1) := by decide +kernel
theorem dX1_putSetting_6 : decode cX1_putSetting 6 = .ok (.if_icmp .lt 21, 3) := by decide +kernel
theorem dX1_putSetting_9 : decode cX1_putSetting 9 = .ok (.iload_n 2, 1) := by decide +kernel
theorem dX1_putSetting_10 : decode cX1_putSetting 10 = .ok (.bipush 120, 2) := by decide +kernel
theorem dX1_putSetting_12 : decode cX1_putSetting 12 = .ok (.if_icmp .gt 15, 3) := by decide +kernel
theorem dX1_putSetting_15 : decode cX1_putSetting 15 = .ok (.aload_n 0, 1) := by decide +kernel
theorem dX1_putSetting_16 : decode cX1_putSetting 16 = .ok (.getfield 31, 3) := by decide +kernel
theorem dX1_putSetting_19 : decode cX1_putSetting 19 = .ok (.istore_n 3, 1) := by decide +kernel
theorem dX1_putSetting_20 : decode cX1_putSetting 20 = .ok (.aload_n 0, 1) := by decide +kernel
theorem dX1_putSetting_21 : decode cX1_putSetting 21 = .ok (.iload_n 2, 1) := by decide +kernel
theorem dX1_putSetting_22 : decode cX1_putSetting 22 = .ok (.putfield 31, 3) := by decide +kernel
theorem dX1_putSetting_25 : decode cX1_putSetting 25 = .ok (.iload_n 3, 1) := by decide +kernel
theorem dX1_putSetting_26 : decode cX1_putSetting 26 = .ok (.ireturn, 1) := by decide +kernel
theorem dX1_putSetting_27 : decode cX1_putSetting 27 = .ok (.iload_n 1, 1) := by decide +kernel
theorem dX1_putSetting_28 : decode cX1_putSetting 28 = .ok (.iconst 1, 1) := by decide +kernel
theorem dX1_putSetting_29 : decode cX1_putSetting 29 = .ok (.if_icmp .ne 26, 3) := by decide +kernel
theorem dX1_putSetting_32 : decode cX1_putSetting 32 = .ok (.iload_n 2, 1) := by decide +kernel
theorem dX1_putSetting_33 : decode cX1_putSetting 33 = .ok (.ifCond .lt 22, 3) := by decide +kernel
theorem dX1_putSetting_36 : decode cX1_putSetting 36 = .ok (.iload_n 2, 1) := by decide +kernel
theorem dX1_putSetting_37 : decode cX1_putSetting 37 = .ok (.sipush 600, 3) := by decide +kernel
theorem dX1_putSetting_40 : decode cX1_putSetting 40 = .ok (.if_icmp .gt 15, 3) := by decide +kernel
theorem dX1_putSetting_43 : decode cX1_putSetting 43 = .ok (.aload_n 0, 1) := by decide +kernel
theorem dX1_putSetting_44 : decode cX1_putSetting 44 = .ok (.getfield 35, 3) := by decide +kernel
theorem dX1_putSetting_47 : decode cX1_putSetting 47 = .ok (.istore_n 3, 1) := by decide +kernel
theorem dX1_putSetting_48 : decode cX1_putSetting 48 = .ok (.aload_n 0, 1) := by decide +kernel
theorem dX1_putSetting_49 : decode cX1_putSetting 49 = .ok (.iload_n 2, 1) := by decide +kernel
theorem dX1_putSetting_50 : decode cX1_putSetting 50 = .ok (.putfield 35, 3) := by decide +kernel
theorem dX1_putSetting_53 : decode cX1_putSetting 53 = .ok (.iload_n 3, 1) := by decide +kernel
theorem dX1_putSetting_54 : decode cX1_putSetting 54 = .ok (.ireturn, 1) := by decide +kernel
theorem dX1_putSetting_55 : decode cX1_putSetting 55 = .ok (.iconst (-1), 1) := by decide +kernel
theorem dX1_putSetting_56 : decode cX1_putSetting 56 = .ok (.ireturn, 1) := by decide +kernel
theorem dX1_takeAlert_0 : decode cX1_takeAlert 0 = .ok (.iload_n 1, 1) := by decide +kernel
theorem dX1_takeAlert_1 : decode cX1_takeAlert 1 = .ok (.ifCond .lt 18, 3) := by decide +kernel
theorem dX1_takeAlert_4 : decode cX1_takeAlert 4 = .ok (.iload_n 1, 1) := by decide +kernel
theorem dX1_takeAlert_5 : decode cX1_takeAlert 5 = .ok (.bipush 20, 2) := by decide +kernel
theorem dX1_takeAlert_7 : decode cX1_takeAlert 7 = .ok (.if_icmp .ge 12, 3) := by decide +kernel
theorem dX1_takeAlert_10 : decode cX1_takeAlert 10 = .ok (.iload_n 2, 1) := by decide +kernel
theorem dX1_takeAlert_11 : decode cX1_takeAlert 11 = .ok (.ifCond .lt 8, 3) := by decide +kernel
theorem dX1_takeAlert_14 : decode cX1_takeAlert 14 = .ok (.iload_n 2, 1) := by decide +kernel
theorem dX1_takeAlert_15 : decode cX1_takeAlert 15 = .ok (.iconst 2, 1) := by decide +kernel
theorem dX1_takeAlert_16 : decode cX1_takeAlert 16 = .ok (.if_icmp .le 5, 3) := by decide +kernel
theorem dX1_takeAlert_19 : decode cX1_takeAlert 19 = .ok (.iconst (-1), 1) := by decide +kernel
theorem dX1_takeAlert_20 : decode cX1_takeAlert 20 = .ok (.ireturn, 1) := by decide +kernel
theorem dX1_takeAlert_21 : decode cX1_takeAlert 21 = .ok (.iconst 0, 1) := by decide +kernel
theorem dX1_takeAlert_22 : decode cX1_takeAlert 22 = .ok (.istore_n 3, 1) := by decide +kernel
theorem dX1_takeAlert_23 : decode cX1_takeAlert 23 = .ok (.iload_n 3, 1) := by decide +kernel
theorem dX1_takeAlert_24 : decode cX1_takeAlert 24 = .ok (.aload_n 0, 1) := by decide +kernel
theorem dX1_takeAlert_25 : decode cX1_takeAlert 25 = .ok (.getfield 20, 3) := by decide +kernel
theorem dX1_takeAlert_28 : decode cX1_takeAlert 28 = .ok (.arraylength, 1) := by decide +kernel
theorem dX1_takeAlert_29 : decode cX1_takeAlert 29 = .ok (.if_icmp .ge 80, 3) := by decide +kernel
theorem dX1_takeAlert_32 : decode cX1_takeAlert 32 = .ok (.aload_n 0, 1) := by decide +kernel
theorem dX1_takeAlert_33 : decode cX1_takeAlert 33 = .ok (.getfield 20, 3) := by decide +kernel
theorem dX1_takeAlert_36 : decode cX1_takeAlert 36 = .ok (.iload_n 3, 1) := by decide +kernel
theorem dX1_takeAlert_37 : decode cX1_takeAlert 37 = .ok (.aaload, 1) := by decide +kernel
theorem dX1_takeAlert_38 : decode cX1_takeAlert 38 = .ok (.astore 4, 2) := by decide +kernel
theorem dX1_takeAlert_40 : decode cX1_takeAlert 40 = .ok (.aload 4, 2) := by decide +kernel
theorem dX1_takeAlert_42 : decode cX1_takeAlert 42 = .ok (.getfield 52, 3) := by decide +kernel
theorem dX1_takeAlert_45 : decode cX1_takeAlert 45 = .ok (.ifCond .eq 58, 3) := by decide +kernel
theorem dX1_takeAlert_48 : decode cX1_takeAlert 48 = .ok (.aload 4, 2) := by decide +kernel
theorem dX1_takeAlert_50 : decode cX1_takeAlert 50 = .ok (.getfield 73, 3) := by decide +kernel
theorem dX1_takeAlert_53 : decode cX1_takeAlert 53 = .ok (.iload_n 1, 1) := by decide +kernel
theorem dX1_takeAlert_54 : decode cX1_takeAlert 54 = .ok (.if_icmp .ne 49, 3) := by decide +kernel
theorem dX1_takeAlert_57 : decode cX1_takeAlert 57 = .ok (.aload_n 0, 1) := by decide +kernel
theorem dX1_takeAlert_58 : decode cX1_takeAlert 58 = .ok (.getfield 49, 3) := by decide +kernel
theorem dX1_takeAlert_61 : decode cX1_takeAlert 61 = .ok (.aload 4, 2) := by decide +kernel
theorem dX1_takeAlert_63 : decode cX1_takeAlert 63 = .ok (.getfield 76, 3) := by decide +kernel
theorem dX1_takeAlert_66 : decode cX1_takeAlert 66 = .ok (.isub, 1) := by decide +kernel
theorem dX1_takeAlert_67 : decode cX1_takeAlert 67 = .ok (.aload_n 0, 1) := by decide +kernel
theorem dX1_takeAlert_68 : decode cX1_takeAlert 68 = .ok (.getfield 35, 3) := by decide +kernel
theorem dX1_takeAlert_71 : decode cX1_takeAlert 71 = .ok (.if_icmp .gt 32, 3) := by decide +kernel
theorem dX1_takeAlert_74 : decode cX1_takeAlert 74 = .ok (.aload_n 0, 1) := by decide +kernel
theorem dX1_takeAlert_75 : decode cX1_takeAlert 75 = .ok (.aload 4, 2) := by decide +kernel
theorem dX1_takeAlert_77 : decode cX1_takeAlert 77 = .ok (.iload_n 2, 1) := by decide +kernel
theorem dX1_takeAlert_78 : decode cX1_takeAlert 78 = .ok (.invokevirtual 79, 3) := by decide +kernel
theorem dX1_takeAlert_81 : decode cX1_takeAlert 81 = .ok (.ifCond .eq 20, 3) := by decide +kernel
theorem dX1_takeAlert_84 : decode cX1_takeAlert 84 = .ok (.aload_n 0, 1) := by decide +kernel
theorem dX1_takeAlert_85 : decode cX1_takeAlert 85 = .ok (.aload 4, 2) := by decide +kernel
theorem dX1_takeAlert_87 : decode cX1_takeAlert 87 = .ok (.aload_n 0, 1) := by decide +kernel
theorem dX1_takeAlert_88 : decode cX1_takeAlert 88 = .ok (.getfield 12, 3) := by decide +kernel
theorem dX1_takeAlert_91 : decode cX1_takeAlert 91 = .ok (.aload_n 0, 1) := by decide +kernel
theorem dX1_takeAlert_92 : decode cX1_takeAlert 92 = .ok (.getfield 49, 3) := by decide +kernel
theorem dX1_takeAlert_95 : decode cX1_takeAlert 95 = .ok (.invokevirtual 83, 3) := by decide +kernel
theorem dX1_takeAlert_98 : decode cX1_takeAlert 98 = .ok (.invokevirtual 87, 3) := by decide +kernel
theorem dX1_takeAlert_101 : decode cX1_takeAlert 101 = .ok (.iload_n 3, 1) := by decide +kernel
theorem dX1_takeAlert_102 : decode cX1_takeAlert 102 = .ok (.ireturn, 1) := by decide +kernel
theorem dX1_takeAlert_103 : decode cX1_takeAlert 103 = .ok (.iinc 3 1, 3) := by decide +kernel
theorem dX1_takeAlert_106 : decode cX1_takeAlert 106 = .ok (.goto (-83), 3) := by decide +kernel
theorem dX1_takeAlert_109 : decode cX1_takeAlert 109 = .ok (.iconst 0, 1) := by decide +kernel
theorem dX1_takeAlert_110 : decode cX1_takeAlert 110 = .ok (.istore_n 3, 1) := by decide +kernel
theorem dX1_takeAlert_111 : decode cX1_takeAlert 111 = .ok (.iload_n 3, 1) := by decide +kernel
theorem dX1_takeAlert_112 : decode cX1_takeAlert 112 = .ok (.aload_n 0, 1) := by decide +kernel
theorem dX1_takeAlert_113 : decode cX1_takeAlert 113 = .ok (.getfield 20, 3) := by decide +kernel
theorem dX1_takeAlert_116 : decode cX1_takeAlert 116 = .ok (.arraylength, 1) := by decide +kernel
theorem dX1_takeAlert_117 : decode cX1_takeAlert 117 = .ok (.if_icmp .ge 72, 3) := by decide +kernel
theorem dX1_takeAlert_120 : decode cX1_takeAlert 120 = .ok (.aload_n 0, 1) := by decide +kernel
theorem dX1_takeAlert_121 : decode cX1_takeAlert 121 = .ok (.getfield 20, 3) := by decide +kernel
theorem dX1_takeAlert_124 : decode cX1_takeAlert 124 = .ok (.iload_n 3, 1) := by decide +kernel
theorem dX1_takeAlert_125 : decode cX1_takeAlert 125 = .ok (.aaload, 1) := by decide +kernel
theorem dX1_takeAlert_126 : decode cX1_takeAlert 126 = .ok (.getfield 52, 3) := by decide +kernel
theorem dX1_takeAlert_129 : decode cX1_takeAlert 129 = .ok (.ifCond .ne 54, 3) := by decide +kernel
theorem dX1_takeAlert_132 : decode cX1_takeAlert 132 = .ok (.aload_n 0, 1) := by decide +kernel
theorem dX1_takeAlert_133 : decode cX1_takeAlert 133 = .ok (.getfield 20, 3) := by decide +kernel
theorem dX1_takeAlert_136 : decode cX1_takeAlert 136 = .ok (.iload_n 3, 1) := by decide +kernel
theorem dX1_takeAlert_137 : decode cX1_takeAlert 137 = .ok (.aaload, 1) := by decide +kernel
theorem dX1_takeAlert_138 : decode cX1_takeAlert 138 = .ok (.iload_n 1, 1) := by decide +kernel
theorem dX1_takeAlert_139 : decode cX1_takeAlert 139 = .ok (.iload_n 2, 1) := by decide +kernel
theorem dX1_takeAlert_140 : decode cX1_takeAlert 140 = .ok (.aload_n 0, 1) := by decide +kernel
theorem dX1_takeAlert_141 : decode cX1_takeAlert 141 = .ok (.getfield 49, 3) := by decide +kernel
theorem dX1_takeAlert_144 : decode cX1_takeAlert 144 = .ok (.invokevirtual 91, 3) := by decide +kernel
theorem dX1_takeAlert_147 : decode cX1_takeAlert 147 = .ok (.aload_n 0, 1) := by decide +kernel
theorem dX1_takeAlert_148 : decode cX1_takeAlert 148 = .ok (.getfield 27, 3) := by decide +kernel
theorem dX1_takeAlert_151 : decode cX1_takeAlert 151 = .ok (.dup, 1) := by decide +kernel
theorem dX1_takeAlert_152 : decode cX1_takeAlert 152 = .ok (.getfield 95, 3) := by decide +kernel
theorem dX1_takeAlert_155 : decode cX1_takeAlert 155 = .ok (.iconst 1, 1) := by decide +kernel
theorem dX1_takeAlert_156 : decode cX1_takeAlert 156 = .ok (.iadd, 1) := by decide +kernel
theorem dX1_takeAlert_157 : decode cX1_takeAlert 157 = .ok (.putfield 95, 3) := by decide +kernel
theorem dX1_takeAlert_160 : decode cX1_takeAlert 160 = .ok (.aload_n 0, 1) := by decide +kernel
theorem dX1_takeAlert_161 : decode cX1_takeAlert 161 = .ok (.aload_n 0, 1) := by decide +kernel
theorem dX1_takeAlert_162 : decode cX1_takeAlert 162 = .ok (.getfield 20, 3) := by decide +kernel
theorem dX1_takeAlert_165 : decode cX1_takeAlert 165 = .ok (.iload_n 3, 1) := by decide +kernel
theorem dX1_takeAlert_166 : decode cX1_takeAlert 166 = .ok (.aaload, 1) := by decide +kernel
theorem dX1_takeAlert_167 : decode cX1_takeAlert 167 = .ok (.aload_n 0, 1) := by decide +kernel
theorem dX1_takeAlert_168 : decode cX1_takeAlert 168 = .ok (.getfield 12, 3) := by decide +kernel
theorem dX1_takeAlert_171 : decode cX1_takeAlert 171 = .ok (.aload_n 0, 1) := by decide +kernel
theorem dX1_takeAlert_172 : decode cX1_takeAlert 172 = .ok (.getfield 49, 3) := by decide +kernel
theorem dX1_takeAlert_175 : decode cX1_takeAlert 175 = .ok (.invokevirtual 83, 3) := by decide +kernel
theorem dX1_takeAlert_178 : decode cX1_takeAlert 178 = .ok (.invokevirtual 87, 3) := by decide +kernel
theorem dX1_takeAlert_181 : decode cX1_takeAlert 181 = .ok (.iload_n 3, 1) := by decide +kernel
theorem dX1_takeAlert_182 : decode cX1_takeAlert 182 = .ok (.ireturn, 1) := by decide +kernel
theorem dX1_takeAlert_183 : decode cX1_takeAlert 183 = .ok (.iinc 3 1, 3) := by decide +kernel
theorem dX1_takeAlert_186 : decode cX1_takeAlert 186 = .ok (.goto (-75), 3) := by decide +kernel
theorem dX1_takeAlert_189 : decode cX1_takeAlert 189 = .ok (.bipush (-3), 2) := by decide +kernel
theorem dX1_takeAlert_191 : decode cX1_takeAlert 191 = .ok (.ireturn, 1) := by decide +kernel
theorem dX1_fold_0 : decode cX1_fold 0 = .ok (.aload_n 1, 1) := by decide +kernel
theorem dX1_fold_1 : decode cX1_fold 1 = .ok (.dup, 1) := by decide +kernel
theorem dX1_fold_2 : decode cX1_fold 2 = .ok (.getfield 98, 3) := by decide +kernel
theorem dX1_fold_5 : decode cX1_fold 5 = .ok (.iconst 1, 1) := by decide +kernel
theorem dX1_fold_6 : decode cX1_fold 6 = .ok (.iadd, 1) := by decide +kernel
theorem dX1_fold_7 : decode cX1_fold 7 = .ok (.putfield 98, 3) := by decide +kernel
theorem dX1_fold_10 : decode cX1_fold 10 = .ok (.aload_n 1, 1) := by decide +kernel
theorem dX1_fold_11 : decode cX1_fold 11 = .ok (.aload_n 0, 1) := by decide +kernel
theorem dX1_fold_12 : decode cX1_fold 12 = .ok (.getfield 49, 3) := by decide +kernel
theorem dX1_fold_15 : decode cX1_fold 15 = .ok (.putfield 76, 3) := by decide +kernel
theorem dX1_fold_18 : decode cX1_fold 18 = .ok (.aload_n 0, 1) := by decide +kernel
theorem dX1_fold_19 : decode cX1_fold 19 = .ok (.getfield 27, 3) := by decide +kernel
theorem dX1_fold_22 : decode cX1_fold 22 = .ok (.dup, 1) := by decide +kernel
theorem dX1_fold_23 : decode cX1_fold 23 = .ok (.getfield 95, 3) := by decide +kernel
theorem dX1_fold_26 : decode cX1_fold 26 = .ok (.iconst 1, 1) := by decide +kernel
theorem dX1_fold_27 : decode cX1_fold 27 = .ok (.iadd, 1) := by decide +kernel
theorem dX1_fold_28 : decode cX1_fold 28 = .ok (.putfield 95, 3) := by decide +kernel
theorem dX1_fold_31 : decode cX1_fold 31 = .ok (.aload_n 0, 1) := by decide +kernel
theorem dX1_fold_32 : decode cX1_fold 32 = .ok (.getfield 27, 3) := by decide +kernel
theorem dX1_fold_35 : decode cX1_fold 35 = .ok (.dup, 1) := by decide +kernel
theorem dX1_fold_36 : decode cX1_fold 36 = .ok (.getfield 99, 3) := by decide +kernel
theorem dX1_fold_39 : decode cX1_fold 39 = .ok (.iconst 1, 1) := by decide +kernel
theorem dX1_fold_40 : decode cX1_fold 40 = .ok (.iadd, 1) := by decide +kernel
theorem dX1_fold_41 : decode cX1_fold 41 = .ok (.putfield 99, 3) := by decide +kernel
theorem dX1_fold_44 : decode cX1_fold 44 = .ok (.iload_n 2, 1) := by decide +kernel
theorem dX1_fold_45 : decode cX1_fold 45 = .ok (.aload_n 1, 1) := by decide +kernel
theorem dX1_fold_46 : decode cX1_fold 46 = .ok (.getfield 102, 3) := by decide +kernel
theorem dX1_fold_49 : decode cX1_fold 49 = .ok (.if_icmp .gt 5, 3) := by decide +kernel
theorem dX1_fold_52 : decode cX1_fold 52 = .ok (.iconst 0, 1) := by decide +kernel
theorem dX1_fold_53 : decode cX1_fold 53 = .ok (.ireturn, 1) := by decide +kernel
theorem dX1_fold_54 : decode cX1_fold 54 = .ok (.aload_n 1, 1) := by decide +kernel
theorem dX1_fold_55 : decode cX1_fold 55 = .ok (.iload_n 2, 1) := by decide +kernel
theorem dX1_fold_56 : decode cX1_fold 56 = .ok (.putfield 102, 3) := by decide +kernel
theorem dX1_fold_59 : decode cX1_fold 59 = .ok (.aload_n 1, 1) := by decide +kernel
theorem dX1_fold_60 : decode cX1_fold 60 = .ok (.getfield 59, 3) := by decide +kernel
theorem dX1_fold_63 : decode cX1_fold 63 = .ok (.iconst (-1), 1) := by decide +kernel
theorem dX1_fold_64 : decode cX1_fold 64 = .ok (.if_icmp .ne 7, 3) := by decide +kernel
theorem dX1_fold_67 : decode cX1_fold 67 = .ok (.iconst 1, 1) := by decide +kernel
theorem dX1_fold_68 : decode cX1_fold 68 = .ok (.goto 4, 3) := by decide +kernel
theorem dX1_fold_71 : decode cX1_fold 71 = .ok (.iconst 0, 1) := by decide +kernel
theorem dX1_fold_72 : decode cX1_fold 72 = .ok (.ireturn, 1) := by decide +kernel
theorem dX1_page_0 : decode cX1_page 0 = .ok (.aload_n 1, 1) := by decide +kernel
theorem dX1_page_1 : decode cX1_page 1 = .ok (.iconst 0, 1) := by decide +kernel
theorem dX1_page_2 : decode cX1_page 2 = .ok (.putfield 56, 3) := by decide +kernel
theorem dX1_page_5 : decode cX1_page 5 = .ok (.aload_n 1, 1) := by decide +kernel
theorem dX1_page_6 : decode cX1_page 6 = .ok (.iconst (-1), 1) := by decide +kernel
theorem dX1_page_7 : decode cX1_page 7 = .ok (.putfield 59, 3) := by decide +kernel
theorem dX1_page_10 : decode cX1_page 10 = .ok (.aload_n 1, 1) := by decide +kernel
theorem dX1_page_11 : decode cX1_page 11 = .ok (.iload_n 2, 1) := by decide +kernel
theorem dX1_page_12 : decode cX1_page 12 = .ok (.putfield 105, 3) := by decide +kernel
theorem dX1_page_15 : decode cX1_page 15 = .ok (.aload_n 0, 1) := by decide +kernel
theorem dX1_page_16 : decode cX1_page 16 = .ok (.getfield 12, 3) := by decide +kernel
theorem dX1_page_19 : decode cX1_page 19 = .ok (.iload_n 2, 1) := by decide +kernel
theorem dX1_page_20 : decode cX1_page 20 = .ok (.aload_n 0, 1) := by decide +kernel
theorem dX1_page_21 : decode cX1_page 21 = .ok (.getfield 49, 3) := by decide +kernel
theorem dX1_page_24 : decode cX1_page 24 = .ok (.aload_n 1, 1) := by decide +kernel
theorem dX1_page_25 : decode cX1_page 25 = .ok (.getfield 108, 3) := by decide +kernel
theorem dX1_page_28 : decode cX1_page 28 = .ok (.invokevirtual 111, 3) := by decide +kernel
theorem dX1_page_31 : decode cX1_page 31 = .ok (.istore_n 3, 1) := by decide +kernel
theorem dX1_page_32 : decode cX1_page 32 = .ok (.iload_n 3, 1) := by decide +kernel
theorem dX1_page_33 : decode cX1_page 33 = .ok (.ifCond .lt 15, 3) := by decide +kernel
theorem dX1_page_36 : decode cX1_page 36 = .ok (.iload_n 3, 1) := by decide +kernel
theorem dX1_page_37 : decode cX1_page 37 = .ok (.aload_n 0, 1) := by decide +kernel
theorem dX1_page_38 : decode cX1_page 38 = .ok (.getfield 12, 3) := by decide +kernel
theorem dX1_page_41 : decode cX1_page 41 = .ok (.getfield 115, 3) := by decide +kernel
theorem dX1_page_44 : decode cX1_page 44 = .ok (.arraylength, 1) := by decide +kernel
theorem dX1_page_45 : decode cX1_page 45 = .ok (.if_icmp .lt 4, 3) := by decide +kernel
theorem dX1_page_48 : decode cX1_page 48 = .ok (.return_, 1) := by decide +kernel
theorem dX1_page_49 : decode cX1_page 49 = .ok (.aload_n 0, 1) := by decide +kernel
theorem dX1_page_50 : decode cX1_page 50 = .ok (.getfield 12, 3) := by decide +kernel
theorem dX1_page_53 : decode cX1_page 53 = .ok (.getfield 115, 3) := by decide +kernel
theorem dX1_page_56 : decode cX1_page 56 = .ok (.iload_n 3, 1) := by decide +kernel
theorem dX1_page_57 : decode cX1_page 57 = .ok (.aaload, 1) := by decide +kernel
theorem dX1_page_58 : decode cX1_page 58 = .ok (.astore 4, 2) := by decide +kernel
theorem dX1_page_60 : decode cX1_page 60 = .ok (.aload 4, 2) := by decide +kernel
theorem dX1_page_62 : decode cX1_page 62 = .ok (.aload_n 1, 1) := by decide +kernel
theorem dX1_page_63 : decode cX1_page 63 = .ok (.getfield 73, 3) := by decide +kernel
theorem dX1_page_66 : decode cX1_page 66 = .ok (.aload_n 1, 1) := by decide +kernel
theorem dX1_page_67 : decode cX1_page 67 = .ok (.getfield 102, 3) := by decide +kernel
theorem dX1_page_70 : decode cX1_page 70 = .ok (.aload_n 0, 1) := by decide +kernel
theorem dX1_page_71 : decode cX1_page 71 = .ok (.getfield 49, 3) := by decide +kernel
theorem dX1_page_74 : decode cX1_page 74 = .ok (.invokestatic 119, 3) := by decide +kernel
theorem dX1_page_77 : decode cX1_page 77 = .ok (.invokevirtual 122, 3) := by decide +kernel
theorem dX1_page_80 : decode cX1_page 80 = .ok (.ifCond .eq 4, 3) := by decide +kernel
theorem dX1_page_83 : decode cX1_page 83 = .ok (.return_, 1) := by decide +kernel
theorem dX1_page_84 : decode cX1_page 84 = .ok (.aload_n 1, 1) := by decide +kernel
theorem dX1_page_85 : decode cX1_page 85 = .ok (.iload_n 3, 1) := by decide +kernel
theorem dX1_page_86 : decode cX1_page 86 = .ok (.putfield 59, 3) := by decide +kernel
theorem dX1_page_89 : decode cX1_page 89 = .ok (.aload_n 1, 1) := by decide +kernel
theorem dX1_page_90 : decode cX1_page 90 = .ok (.aload_n 0, 1) := by decide +kernel
theorem dX1_page_91 : decode cX1_page 91 = .ok (.getfield 49, 3) := by decide +kernel
theorem dX1_page_94 : decode cX1_page 94 = .ok (.putfield 128, 3) := by decide +kernel
theorem dX1_page_97 : decode cX1_page 97 = .ok (.aload 4, 2) := by decide +kernel
theorem dX1_page_99 : decode cX1_page 99 = .ok (.dup, 1) := by decide +kernel
theorem dX1_page_100 : decode cX1_page 100 = .ok (.getfield 131, 3) := by decide +kernel
theorem dX1_page_103 : decode cX1_page 103 = .ok (.iconst 1, 1) := by decide +kernel
theorem dX1_page_104 : decode cX1_page 104 = .ok (.iadd, 1) := by decide +kernel
theorem dX1_page_105 : decode cX1_page 105 = .ok (.putfield 131, 3) := by decide +kernel
theorem dX1_page_108 : decode cX1_page 108 = .ok (.aload_n 0, 1) := by decide +kernel
theorem dX1_page_109 : decode cX1_page 109 = .ok (.getfield 27, 3) := by decide +kernel
theorem dX1_page_112 : decode cX1_page 112 = .ok (.dup, 1) := by decide +kernel
theorem dX1_page_113 : decode cX1_page 113 = .ok (.getfield 134, 3) := by decide +kernel
theorem dX1_page_116 : decode cX1_page 116 = .ok (.iconst 1, 1) := by decide +kernel
theorem dX1_page_117 : decode cX1_page 117 = .ok (.iadd, 1) := by decide +kernel
theorem dX1_page_118 : decode cX1_page 118 = .ok (.putfield 134, 3) := by decide +kernel
theorem dX1_page_121 : decode cX1_page 121 = .ok (.return_, 1) := by decide +kernel
theorem dX1_takeAcknowledgement_0 : decode cX1_takeAcknowledgement 0 = .ok (.aload_n 0, 1) := by decide +kernel
theorem dX1_takeAcknowledgement_1 : decode cX1_takeAcknowledgement 1 = .ok (.iload_n 1, 1) := by decide +kernel
theorem dX1_takeAcknowledgement_2 : decode cX1_takeAcknowledgement 2 = .ok (.invokevirtual 135, 3) := by decide +kernel
theorem dX1_takeAcknowledgement_5 : decode cX1_takeAcknowledgement 5 = .ok (.ifCond .ne 5, 3) := by decide +kernel
theorem dX1_takeAcknowledgement_8 : decode cX1_takeAcknowledgement 8 = .ok (.iconst (-1), 1) := by decide +kernel
theorem dX1_takeAcknowledgement_9 : decode cX1_takeAcknowledgement 9 = .ok (.ireturn, 1) := by decide +kernel
theorem dX1_takeAcknowledgement_10 : decode cX1_takeAcknowledgement 10 = .ok (.aload_n 0, 1) := by decide +kernel
theorem dX1_takeAcknowledgement_11 : decode cX1_takeAcknowledgement 11 = .ok (.getfield 20, 3) := by decide +kernel
theorem dX1_takeAcknowledgement_14 : decode cX1_takeAcknowledgement 14 = .ok (.iload_n 1, 1) := by decide +kernel
theorem dX1_takeAcknowledgement_15 : decode cX1_takeAcknowledgement 15 = .ok (.aaload, 1) := by decide +kernel
theorem dX1_takeAcknowledgement_16 : decode cX1_takeAcknowledgement 16 = .ok (.astore_n 2, 1) := by decide +kernel
theorem dX1_takeAcknowledgement_17 : decode cX1_takeAcknowledgement 17 = .ok (.aload_n 2, 1) := by decide +kernel
theorem dX1_takeAcknowledgement_18 : decode cX1_takeAcknowledgement 18 = .ok (.getfield 59, 3) := by decide +kernel
theorem dX1_takeAcknowledgement_21 : decode cX1_takeAcknowledgement 21 = .ok (.iconst (-1), 1) := by decide +kernel
theorem dX1_takeAcknowledgement_22 : decode cX1_takeAcknowledgement 22 = .ok (.if_icmp .eq 10, 3) := by decide +kernel
theorem dX1_takeAcknowledgement_25 : decode cX1_takeAcknowledgement 25 = .ok (.aload_n 2, 1) := by decide +kernel
theorem dX1_takeAcknowledgement_26 : decode cX1_takeAcknowledgement 26 = .ok (.getfield 56, 3) := by decide +kernel
theorem dX1_takeAcknowledgement_29 : decode cX1_takeAcknowledgement 29 = .ok (.ifCond .eq 6, 3) := by decide +kernel
theorem dX1_takeAcknowledgement_32 : decode cX1_takeAcknowledgement 32 = .ok (.bipush (-2), 2) := by decide +kernel
theorem dX1_takeAcknowledgement_34 : decode cX1_takeAcknowledgement 34 = .ok (.ireturn, 1) := by decide +kernel
theorem dX1_takeAcknowledgement_35 : decode cX1_takeAcknowledgement 35 = .ok (.aload_n 0, 1) := by decide +kernel
theorem dX1_takeAcknowledgement_36 : decode cX1_takeAcknowledgement 36 = .ok (.getfield 49, 3) := by decide +kernel
theorem dX1_takeAcknowledgement_39 : decode cX1_takeAcknowledgement 39 = .ok (.aload_n 2, 1) := by decide +kernel
theorem dX1_takeAcknowledgement_40 : decode cX1_takeAcknowledgement 40 = .ok (.getfield 128, 3) := by decide +kernel
theorem dX1_takeAcknowledgement_43 : decode cX1_takeAcknowledgement 43 = .ok (.isub, 1) := by decide +kernel
theorem dX1_takeAcknowledgement_44 : decode cX1_takeAcknowledgement 44 = .ok (.istore_n 3, 1) := by decide +kernel
theorem dX1_takeAcknowledgement_45 : decode cX1_takeAcknowledgement 45 = .ok (.aload_n 2, 1) := by decide +kernel
theorem dX1_takeAcknowledgement_46 : decode cX1_takeAcknowledgement 46 = .ok (.iconst 1, 1) := by decide +kernel
theorem dX1_takeAcknowledgement_47 : decode cX1_takeAcknowledgement 47 = .ok (.putfield 56, 3) := by decide +kernel
theorem dX1_takeAcknowledgement_50 : decode cX1_takeAcknowledgement 50 = .ok (.aload_n 0, 1) := by decide +kernel
theorem dX1_takeAcknowledgement_51 : decode cX1_takeAcknowledgement 51 = .ok (.getfield 27, 3) := by decide +kernel
theorem dX1_takeAcknowledgement_54 : decode cX1_takeAcknowledgement 54 = .ok (.dup, 1) := by decide +kernel
theorem dX1_takeAcknowledgement_55 : decode cX1_takeAcknowledgement 55 = .ok (.getfield 138, 3) := by decide +kernel
theorem dX1_takeAcknowledgement_58 : decode cX1_takeAcknowledgement 58 = .ok (.iconst 1, 1) := by decide +kernel
theorem dX1_takeAcknowledgement_59 : decode cX1_takeAcknowledgement 59 = .ok (.iadd, 1) := by decide +kernel
theorem dX1_takeAcknowledgement_60 : decode cX1_takeAcknowledgement 60 = .ok (.putfield 138, 3) := by decide +kernel
theorem dX1_takeAcknowledgement_63 : decode cX1_takeAcknowledgement 63 = .ok (.aload_n 0, 1) := by decide +kernel
theorem dX1_takeAcknowledgement_64 : decode cX1_takeAcknowledgement 64 = .ok (.getfield 27, 3) := by decide +kernel
theorem dX1_takeAcknowledgement_67 : decode cX1_takeAcknowledgement 67 = .ok (.dup, 1) := by decide +kernel
theorem dX1_takeAcknowledgement_68 : decode cX1_takeAcknowledgement 68 = .ok (.getfield 141, 3) := by decide +kernel
theorem dX1_takeAcknowledgement_71 : decode cX1_takeAcknowledgement 71 = .ok (.iload_n 3, 1) := by decide +kernel
theorem dX1_takeAcknowledgement_72 : decode cX1_takeAcknowledgement 72 = .ok (.iadd, 1) := by decide +kernel
theorem dX1_takeAcknowledgement_73 : decode cX1_takeAcknowledgement 73 = .ok (.putfield 141, 3) := by decide +kernel
theorem dX1_takeAcknowledgement_76 : decode cX1_takeAcknowledgement 76 = .ok (.iload_n 3, 1) := by decide +kernel
theorem dX1_takeAcknowledgement_77 : decode cX1_takeAcknowledgement 77 = .ok (.ireturn, 1) := by decide +kernel
theorem dX1_close_0 : decode cX1_close 0 = .ok (.aload_n 0, 1) := by decide +kernel
theorem dX1_close_1 : decode cX1_close 1 = .ok (.iload_n 1, 1) := by decide +kernel
theorem dX1_close_2 : decode cX1_close 2 = .ok (.invokevirtual 135, 3) := by decide +kernel
theorem dX1_close_5 : decode cX1_close 5 = .ok (.ifCond .ne 5, 3) := by decide +kernel
theorem dX1_close_8 : decode cX1_close 8 = .ok (.iconst (-1), 1) := by decide +kernel
theorem dX1_close_9 : decode cX1_close 9 = .ok (.ireturn, 1) := by decide +kernel
theorem dX1_close_10 : decode cX1_close 10 = .ok (.aload_n 0, 1) := by decide +kernel
theorem dX1_close_11 : decode cX1_close 11 = .ok (.getfield 20, 3) := by decide +kernel
theorem dX1_close_14 : decode cX1_close 14 = .ok (.iload_n 1, 1) := by decide +kernel
theorem dX1_close_15 : decode cX1_close 15 = .ok (.aaload, 1) := by decide +kernel
theorem dX1_close_16 : decode cX1_close 16 = .ok (.astore_n 2, 1) := by decide +kernel
theorem dX1_close_17 : decode cX1_close 17 = .ok (.aload_n 2, 1) := by decide +kernel
theorem dX1_close_18 : decode cX1_close 18 = .ok (.iconst 0, 1) := by decide +kernel
theorem dX1_close_19 : decode cX1_close 19 = .ok (.putfield 52, 3) := by decide +kernel
theorem dX1_close_22 : decode cX1_close 22 = .ok (.aload_n 0, 1) := by decide +kernel
theorem dX1_close_23 : decode cX1_close 23 = .ok (.getfield 27, 3) := by decide +kernel
theorem dX1_close_26 : decode cX1_close 26 = .ok (.dup, 1) := by decide +kernel
theorem dX1_close_27 : decode cX1_close 27 = .ok (.getfield 144, 3) := by decide +kernel
theorem dX1_close_30 : decode cX1_close 30 = .ok (.iconst 1, 1) := by decide +kernel
theorem dX1_close_31 : decode cX1_close 31 = .ok (.iadd, 1) := by decide +kernel
theorem dX1_close_32 : decode cX1_close 32 = .ok (.putfield 144, 3) := by decide +kernel
theorem dX1_close_35 : decode cX1_close 35 = .ok (.aload_n 0, 1) := by decide +kernel
theorem dX1_close_36 : decode cX1_close 36 = .ok (.getfield 12, 3) := by decide +kernel
theorem dX1_close_39 : decode cX1_close 39 = .ok (.aload_n 2, 1) := by decide +kernel
theorem dX1_close_40 : decode cX1_close 40 = .ok (.getfield 59, 3) := by decide +kernel
theorem dX1_close_43 : decode cX1_close 43 = .ok (.invokevirtual 66, 3) := by decide +kernel
theorem dX1_close_46 : decode cX1_close 46 = .ok (.ifCond .eq 24, 3) := by decide +kernel
theorem dX1_close_49 : decode cX1_close 49 = .ok (.aload_n 0, 1) := by decide +kernel
theorem dX1_close_50 : decode cX1_close 50 = .ok (.getfield 12, 3) := by decide +kernel
theorem dX1_close_53 : decode cX1_close 53 = .ok (.getfield 115, 3) := by decide +kernel
theorem dX1_close_56 : decode cX1_close 56 = .ok (.aload_n 2, 1) := by decide +kernel
theorem dX1_close_57 : decode cX1_close 57 = .ok (.getfield 59, 3) := by decide +kernel
theorem dX1_close_60 : decode cX1_close 60 = .ok (.aaload, 1) := by decide +kernel
theorem dX1_close_61 : decode cX1_close 61 = .ok (.dup, 1) := by decide +kernel
theorem dX1_close_62 : decode cX1_close 62 = .ok (.getfield 147, 3) := by decide +kernel
theorem dX1_close_65 : decode cX1_close 65 = .ok (.iconst 1, 1) := by decide +kernel
theorem dX1_close_66 : decode cX1_close 66 = .ok (.iadd, 1) := by decide +kernel
theorem dX1_close_67 : decode cX1_close 67 = .ok (.putfield 147, 3) := by decide +kernel
theorem dX1_close_70 : decode cX1_close 70 = .ok (.aload_n 0, 1) := by decide +kernel
theorem dX1_close_71 : decode cX1_close 71 = .ok (.getfield 49, 3) := by decide +kernel
theorem dX1_close_74 : decode cX1_close 74 = .ok (.aload_n 2, 1) := by decide +kernel
theorem dX1_close_75 : decode cX1_close 75 = .ok (.getfield 148, 3) := by decide +kernel
theorem dX1_close_78 : decode cX1_close 78 = .ok (.isub, 1) := by decide +kernel
theorem dX1_close_79 : decode cX1_close 79 = .ok (.ireturn, 1) := by decide +kernel
theorem dX1_letPass_0 : decode cX1_letPass 0 = .ok (.iload_n 1, 1) := by decide +kernel
theorem dX1_letPass_1 : decode cX1_letPass 1 = .ok (.iconst 1, 1) := by decide +kernel
theorem dX1_letPass_2 : decode cX1_letPass 2 = .ok (.if_icmp .lt 10, 3) := by decide +kernel
theorem dX1_letPass_5 : decode cX1_letPass 5 = .ok (.iload_n 1, 1) := by decide +kernel
theorem dX1_letPass_6 : decode cX1_letPass 6 = .ok (.sipush 600, 3) := by decide +kernel
theorem dX1_letPass_9 : decode cX1_letPass 9 = .ok (.if_icmp .le 5, 3) := by decide +kernel
theorem dX1_letPass_12 : decode cX1_letPass 12 = .ok (.iconst (-1), 1) := by decide +kernel
theorem dX1_letPass_13 : decode cX1_letPass 13 = .ok (.ireturn, 1) := by decide +kernel
theorem dX1_letPass_14 : decode cX1_letPass 14 = .ok (.aload_n 0, 1) := by decide +kernel
theorem dX1_letPass_15 : decode cX1_letPass 15 = .ok (.getfield 49, 3) := by decide +kernel
theorem dX1_letPass_18 : decode cX1_letPass 18 = .ok (.iload_n 1, 1) := by decide +kernel
theorem dX1_letPass_19 : decode cX1_letPass 19 = .ok (.iadd, 1) := by decide +kernel
theorem dX1_letPass_20 : decode cX1_letPass 20 = .ok (.sipush 30000, 3) := by decide +kernel
theorem dX1_letPass_23 : decode cX1_letPass 23 = .ok (.if_icmp .le 6, 3) := by decide +kernel
theorem dX1_letPass_26 : decode cX1_letPass 26 = .ok (.bipush (-3), 2) := by decide +kernel
theorem dX1_letPass_28 : decode cX1_letPass 28 = .ok (.ireturn, 1) := by decide +kernel
theorem dX1_letPass_29 : decode cX1_letPass 29 = .ok (.aload_n 0, 1) := by decide +kernel
theorem dX1_letPass_30 : decode cX1_letPass 30 = .ok (.getfield 27, 3) := by decide +kernel
theorem dX1_letPass_33 : decode cX1_letPass 33 = .ok (.getfield 134, 3) := by decide +kernel
theorem dX1_letPass_36 : decode cX1_letPass 36 = .ok (.istore_n 2, 1) := by decide +kernel
theorem dX1_letPass_37 : decode cX1_letPass 37 = .ok (.iconst 0, 1) := by decide +kernel
theorem dX1_letPass_38 : decode cX1_letPass 38 = .ok (.istore_n 3, 1) := by decide +kernel
theorem dX1_letPass_39 : decode cX1_letPass 39 = .ok (.iload_n 3, 1) := by decide +kernel
theorem dX1_letPass_40 : decode cX1_letPass 40 = .ok (.iload_n 1, 1) := by decide +kernel
theorem dX1_letPass_41 : decode cX1_letPass 41 = .ok (.if_icmp .ge 93, 3) := by decide +kernel
theorem dX1_letPass_44 : decode cX1_letPass 44 = .ok (.aload_n 0, 1) := by decide +kernel
theorem dX1_letPass_45 : decode cX1_letPass 45 = .ok (.dup, 1) := by decide +kernel
theorem dX1_letPass_46 : decode cX1_letPass 46 = .ok (.getfield 49, 3) := by decide +kernel
theorem dX1_letPass_49 : decode cX1_letPass 49 = .ok (.iconst 1, 1) := by decide +kernel
theorem dX1_letPass_50 : decode cX1_letPass 50 = .ok (.iadd, 1) := by decide +kernel
theorem dX1_letPass_51 : decode cX1_letPass 51 = .ok (.putfield 49, 3) := by decide +kernel
theorem dX1_letPass_54 : decode cX1_letPass 54 = .ok (.aload_n 0, 1) := by decide +kernel
theorem dX1_letPass_55 : decode cX1_letPass 55 = .ok (.getfield 12, 3) := by decide +kernel
theorem dX1_letPass_58 : decode cX1_letPass 58 = .ok (.aload_n 0, 1) := by decide +kernel
theorem dX1_letPass_59 : decode cX1_letPass 59 = .ok (.getfield 49, 3) := by decide +kernel
theorem dX1_letPass_62 : decode cX1_letPass 62 = .ok (.invokevirtual 83, 3) := by decide +kernel
theorem dX1_letPass_65 : decode cX1_letPass 65 = .ok (.istore 4, 2) := by decide +kernel
theorem dX1_letPass_67 : decode cX1_letPass 67 = .ok (.iconst 0, 1) := by decide +kernel
theorem dX1_letPass_68 : decode cX1_letPass 68 = .ok (.istore 5, 2) := by decide +kernel
theorem dX1_letPass_70 : decode cX1_letPass 70 = .ok (.iload 5, 2) := by decide +kernel
theorem dX1_letPass_72 : decode cX1_letPass 72 = .ok (.aload_n 0, 1) := by decide +kernel
theorem dX1_letPass_73 : decode cX1_letPass 73 = .ok (.getfield 20, 3) := by decide +kernel
theorem dX1_letPass_76 : decode cX1_letPass 76 = .ok (.arraylength, 1) := by decide +kernel
theorem dX1_letPass_77 : decode cX1_letPass 77 = .ok (.if_icmp .ge 51, 3) := by decide +kernel
theorem dX1_letPass_80 : decode cX1_letPass 80 = .ok (.aload_n 0, 1) := by decide +kernel
theorem dX1_letPass_81 : decode cX1_letPass 81 = .ok (.getfield 20, 3) := by decide +kernel
theorem dX1_letPass_84 : decode cX1_letPass 84 = .ok (.iload 5, 2) := by decide +kernel
theorem dX1_letPass_86 : decode cX1_letPass 86 = .ok (.aaload, 1) := by decide +kernel
theorem dX1_letPass_87 : decode cX1_letPass 87 = .ok (.getfield 52, 3) := by decide +kernel
theorem dX1_letPass_90 : decode cX1_letPass 90 = .ok (.ifCond .eq 32, 3) := by decide +kernel
theorem dX1_letPass_93 : decode cX1_letPass 93 = .ok (.aload_n 0, 1) := by decide +kernel
theorem dX1_letPass_94 : decode cX1_letPass 94 = .ok (.aload_n 0, 1) := by decide +kernel
theorem dX1_letPass_95 : decode cX1_letPass 95 = .ok (.getfield 20, 3) := by decide +kernel
theorem dX1_letPass_98 : decode cX1_letPass 98 = .ok (.iload 5, 2) := by decide +kernel
theorem dX1_letPass_100 : decode cX1_letPass 100 = .ok (.aaload, 1) := by decide +kernel
theorem dX1_letPass_101 : decode cX1_letPass 101 = .ok (.iload 4, 2) := by decide +kernel
theorem dX1_letPass_103 : decode cX1_letPass 103 = .ok (.invokevirtual 151, 3) := by decide +kernel
theorem dX1_letPass_106 : decode cX1_letPass 106 = .ok (.ifCond .eq 16, 3) := by decide +kernel
theorem dX1_letPass_109 : decode cX1_letPass 109 = .ok (.aload_n 0, 1) := by decide +kernel
theorem dX1_letPass_110 : decode cX1_letPass 110 = .ok (.aload_n 0, 1) := by decide +kernel
theorem dX1_letPass_111 : decode cX1_letPass 111 = .ok (.getfield 20, 3) := by decide +kernel
theorem dX1_letPass_114 : decode cX1_letPass 114 = .ok (.iload 5, 2) := by decide +kernel
theorem dX1_letPass_116 : decode cX1_letPass 116 = .ok (.aaload, 1) := by decide +kernel
theorem dX1_letPass_117 : decode cX1_letPass 117 = .ok (.iload 4, 2) := by decide +kernel
theorem dX1_letPass_119 : decode cX1_letPass 119 = .ok (.invokevirtual 87, 3) := by decide +kernel
theorem dX1_letPass_122 : decode cX1_letPass 122 = .ok (.iinc 5 1, 3) := by decide +kernel
theorem dX1_letPass_125 : decode cX1_letPass 125 = .ok (.goto (-55), 3) := by decide +kernel
theorem dX1_letPass_128 : decode cX1_letPass 128 = .ok (.iinc 3 1, 3) := by decide +kernel
theorem dX1_letPass_131 : decode cX1_letPass 131 = .ok (.goto (-92), 3) := by decide +kernel
theorem dX1_letPass_134 : decode cX1_letPass 134 = .ok (.aload_n 0, 1) := by decide +kernel
theorem dX1_letPass_135 : decode cX1_letPass 135 = .ok (.getfield 27, 3) := by decide +kernel
theorem dX1_letPass_138 : decode cX1_letPass 138 = .ok (.getfield 134, 3) := by decide +kernel
theorem dX1_letPass_141 : decode cX1_letPass 141 = .ok (.iload_n 2, 1) := by decide +kernel
theorem dX1_letPass_142 : decode cX1_letPass 142 = .ok (.isub, 1) := by decide +kernel
theorem dX1_letPass_143 : decode cX1_letPass 143 = .ok (.ireturn, 1) := by decide +kernel
theorem dX1_follow_0 : decode cX1_follow 0 = .ok (.aload_n 0, 1) := by decide +kernel
theorem dX1_follow_1 : decode cX1_follow 1 = .ok (.iload_n 1, 1) := by decide +kernel
theorem dX1_follow_2 : decode cX1_follow 2 = .ok (.invokevirtual 135, 3) := by decide +kernel
theorem dX1_follow_5 : decode cX1_follow 5 = .ok (.ifCond .ne 4, 3) := by decide +kernel
theorem dX1_follow_8 : decode cX1_follow 8 = .ok (.return_, 1) := by decide +kernel
theorem dX1_follow_9 : decode cX1_follow 9 = .ok (.iconst 0, 1) := by decide +kernel
theorem dX1_follow_10 : decode cX1_follow 10 = .ok (.istore_n 3, 1) := by decide +kernel
theorem dX1_follow_11 : decode cX1_follow 11 = .ok (.iload_n 3, 1) := by decide +kernel
theorem dX1_follow_12 : decode cX1_follow 12 = .ok (.iload_n 2, 1) := by decide +kernel
theorem dX1_follow_13 : decode cX1_follow 13 = .ok (.if_icmp .ge 59, 3) := by decide +kernel
theorem dX1_follow_16 : decode cX1_follow 16 = .ok (.aload_n 0, 1) := by decide +kernel
theorem dX1_follow_17 : decode cX1_follow 17 = .ok (.dup, 1) := by decide +kernel
theorem dX1_follow_18 : decode cX1_follow 18 = .ok (.getfield 49, 3) := by decide +kernel
theorem dX1_follow_21 : decode cX1_follow 21 = .ok (.iconst 1, 1) := by decide +kernel
theorem dX1_follow_22 : decode cX1_follow 22 = .ok (.iadd, 1) := by decide +kernel
theorem dX1_follow_23 : decode cX1_follow 23 = .ok (.putfield 49, 3) := by decide +kernel
theorem dX1_follow_26 : decode cX1_follow 26 = .ok (.aload_n 0, 1) := by decide +kernel
theorem dX1_follow_27 : decode cX1_follow 27 = .ok (.getfield 12, 3) := by decide +kernel
theorem dX1_follow_30 : decode cX1_follow 30 = .ok (.aload_n 0, 1) := by decide +kernel
theorem dX1_follow_31 : decode cX1_follow 31 = .ok (.getfield 49, 3) := by decide +kernel
theorem dX1_follow_34 : decode cX1_follow 34 = .ok (.invokevirtual 83, 3) := by decide +kernel
theorem dX1_follow_37 : decode cX1_follow 37 = .ok (.istore 4, 2) := by decide +kernel
theorem dX1_follow_39 : decode cX1_follow 39 = .ok (.aload_n 0, 1) := by decide +kernel
theorem dX1_follow_40 : decode cX1_follow 40 = .ok (.aload_n 0, 1) := by decide +kernel
theorem dX1_follow_41 : decode cX1_follow 41 = .ok (.getfield 20, 3) := by decide +kernel
theorem dX1_follow_44 : decode cX1_follow 44 = .ok (.iload_n 1, 1) := by decide +kernel
theorem dX1_follow_45 : decode cX1_follow 45 = .ok (.aaload, 1) := by decide +kernel
theorem dX1_follow_46 : decode cX1_follow 46 = .ok (.iload 4, 2) := by decide +kernel
theorem dX1_follow_48 : decode cX1_follow 48 = .ok (.invokevirtual 151, 3) := by decide +kernel
theorem dX1_follow_51 : decode cX1_follow 51 = .ok (.ifCond .eq 15, 3) := by decide +kernel
theorem dX1_follow_54 : decode cX1_follow 54 = .ok (.aload_n 0, 1) := by decide +kernel
theorem dX1_follow_55 : decode cX1_follow 55 = .ok (.aload_n 0, 1) := by decide +kernel
theorem dX1_follow_56 : decode cX1_follow 56 = .ok (.getfield 20, 3) := by decide +kernel
theorem dX1_follow_59 : decode cX1_follow 59 = .ok (.iload_n 1, 1) := by decide +kernel
theorem dX1_follow_60 : decode cX1_follow 60 = .ok (.aaload, 1) := by decide +kernel
theorem dX1_follow_61 : decode cX1_follow 61 = .ok (.iload 4, 2) := by decide +kernel
theorem dX1_follow_63 : decode cX1_follow 63 = .ok (.invokevirtual 87, 3) := by decide +kernel
theorem dX1_follow_66 : decode cX1_follow 66 = .ok (.iinc 3 1, 3) := by decide +kernel
theorem dX1_follow_69 : decode cX1_follow 69 = .ok (.goto (-58), 3) := by decide +kernel
theorem dX1_follow_72 : decode cX1_follow 72 = .ok (.return_, 1) := by decide +kernel
theorem dX1_age_0 : decode cX1_age 0 = .ok (.aload_n 0, 1) := by decide +kernel
theorem dX1_age_1 : decode cX1_age 1 = .ok (.getfield 27, 3) := by decide +kernel
theorem dX1_age_4 : decode cX1_age 4 = .ok (.dup, 1) := by decide +kernel
theorem dX1_age_5 : decode cX1_age 5 = .ok (.getfield 154, 3) := by decide +kernel
theorem dX1_age_8 : decode cX1_age 8 = .ok (.iconst 1, 1) := by decide +kernel
theorem dX1_age_9 : decode cX1_age 9 = .ok (.iadd, 1) := by decide +kernel
theorem dX1_age_10 : decode cX1_age 10 = .ok (.putfield 154, 3) := by decide +kernel
theorem dX1_age_13 : decode cX1_age 13 = .ok (.aload_n 1, 1) := by decide +kernel
theorem dX1_age_14 : decode cX1_age 14 = .ok (.getfield 59, 3) := by decide +kernel
theorem dX1_age_17 : decode cX1_age 17 = .ok (.iconst (-1), 1) := by decide +kernel
theorem dX1_age_18 : decode cX1_age 18 = .ok (.if_icmp .ne 29, 3) := by decide +kernel
theorem dX1_age_21 : decode cX1_age 21 = .ok (.aload_n 1, 1) := by decide +kernel
theorem dX1_age_22 : decode cX1_age 22 = .ok (.dup, 1) := by decide +kernel
theorem dX1_age_23 : decode cX1_age 23 = .ok (.getfield 156, 3) := by decide +kernel
theorem dX1_age_26 : decode cX1_age 26 = .ok (.iconst 1, 1) := by decide +kernel
theorem dX1_age_27 : decode cX1_age 27 = .ok (.iadd, 1) := by decide +kernel
theorem dX1_age_28 : decode cX1_age 28 = .ok (.putfield 156, 3) := by decide +kernel
theorem dX1_age_31 : decode cX1_age 31 = .ok (.aload_n 0, 1) := by decide +kernel
theorem dX1_age_32 : decode cX1_age 32 = .ok (.getfield 27, 3) := by decide +kernel
theorem dX1_age_35 : decode cX1_age 35 = .ok (.dup, 1) := by decide +kernel
theorem dX1_age_36 : decode cX1_age 36 = .ok (.getfield 159, 3) := by decide +kernel
theorem dX1_age_39 : decode cX1_age 39 = .ok (.iconst 1, 1) := by decide +kernel
theorem dX1_age_40 : decode cX1_age 40 = .ok (.iadd, 1) := by decide +kernel
theorem dX1_age_41 : decode cX1_age 41 = .ok (.putfield 159, 3) := by decide +kernel
theorem dX1_age_44 : decode cX1_age 44 = .ok (.goto 103, 3) := by decide +kernel
theorem dX1_age_47 : decode cX1_age 47 = .ok (.aload_n 1, 1) := by decide +kernel
theorem dX1_age_48 : decode cX1_age 48 = .ok (.getfield 105, 3) := by decide +kernel
theorem dX1_age_51 : decode cX1_age 51 = .ok (.iload_n 2, 1) := by decide +kernel
theorem dX1_age_52 : decode cX1_age 52 = .ok (.if_icmp .eq 34, 3) := by decide +kernel
theorem dX1_age_55 : decode cX1_age 55 = .ok (.aload_n 1, 1) := by decide +kernel
theorem dX1_age_56 : decode cX1_age 56 = .ok (.iconst 0, 1) := by decide +kernel
theorem dX1_age_57 : decode cX1_age 57 = .ok (.putfield 108, 3) := by decide +kernel
theorem dX1_age_60 : decode cX1_age 60 = .ok (.aload_n 1, 1) := by decide +kernel
theorem dX1_age_61 : decode cX1_age 61 = .ok (.dup, 1) := by decide +kernel
theorem dX1_age_62 : decode cX1_age 62 = .ok (.getfield 160, 3) := by decide +kernel
theorem dX1_age_65 : decode cX1_age 65 = .ok (.iconst 1, 1) := by decide +kernel
theorem dX1_age_66 : decode cX1_age 66 = .ok (.iadd, 1) := by decide +kernel
theorem dX1_age_67 : decode cX1_age 67 = .ok (.putfield 160, 3) := by decide +kernel
theorem dX1_age_70 : decode cX1_age 70 = .ok (.aload_n 0, 1) := by decide +kernel
theorem dX1_age_71 : decode cX1_age 71 = .ok (.getfield 27, 3) := by decide +kernel
theorem dX1_age_74 : decode cX1_age 74 = .ok (.dup, 1) := by decide +kernel
theorem dX1_age_75 : decode cX1_age 75 = .ok (.getfield 163, 3) := by decide +kernel
theorem dX1_age_78 : decode cX1_age 78 = .ok (.iconst 1, 1) := by decide +kernel
theorem dX1_age_79 : decode cX1_age 79 = .ok (.iadd, 1) := by decide +kernel
theorem dX1_age_80 : decode cX1_age 80 = .ok (.putfield 163, 3) := by decide +kernel
theorem dX1_age_83 : decode cX1_age 83 = .ok (.goto 64, 3) := by decide +kernel
theorem dX1_age_86 : decode cX1_age 86 = .ok (.aload_n 1, 1) := by decide +kernel
theorem dX1_age_87 : decode cX1_age 87 = .ok (.getfield 56, 3) := by decide +kernel
theorem dX1_age_90 : decode cX1_age 90 = .ok (.ifCond .ne 55, 3) := by decide +kernel
theorem dX1_age_93 : decode cX1_age 93 = .ok (.aload_n 0, 1) := by decide +kernel
theorem dX1_age_94 : decode cX1_age 94 = .ok (.getfield 49, 3) := by decide +kernel
theorem dX1_age_97 : decode cX1_age 97 = .ok (.aload_n 1, 1) := by decide +kernel
theorem dX1_age_98 : decode cX1_age 98 = .ok (.getfield 128, 3) := by decide +kernel
theorem dX1_age_101 : decode cX1_age 101 = .ok (.isub, 1) := by decide +kernel
theorem dX1_age_102 : decode cX1_age 102 = .ok (.aload_n 0, 1) := by decide +kernel
theorem dX1_age_103 : decode cX1_age 103 = .ok (.getfield 31, 3) := by decide +kernel
theorem dX1_age_106 : decode cX1_age 106 = .ok (.if_icmp .lt 39, 3) := by decide +kernel
theorem dX1_age_109 : decode cX1_age 109 = .ok (.aload_n 1, 1) := by decide +kernel
theorem dX1_age_110 : decode cX1_age 110 = .ok (.dup, 1) := by decide +kernel
theorem dX1_age_111 : decode cX1_age 111 = .ok (.getfield 108, 3) := by decide +kernel
theorem dX1_age_114 : decode cX1_age 114 = .ok (.iconst 1, 1) := by decide +kernel
theorem dX1_age_115 : decode cX1_age 115 = .ok (.iadd, 1) := by decide +kernel
theorem dX1_age_116 : decode cX1_age 116 = .ok (.putfield 108, 3) := by decide +kernel
theorem dX1_age_119 : decode cX1_age 119 = .ok (.aload_n 1, 1) := by decide +kernel
theorem dX1_age_120 : decode cX1_age 120 = .ok (.dup, 1) := by decide +kernel
theorem dX1_age_121 : decode cX1_age 121 = .ok (.getfield 164, 3) := by decide +kernel
theorem dX1_age_124 : decode cX1_age 124 = .ok (.iconst 1, 1) := by decide +kernel
theorem dX1_age_125 : decode cX1_age 125 = .ok (.iadd, 1) := by decide +kernel
theorem dX1_age_126 : decode cX1_age 126 = .ok (.putfield 164, 3) := by decide +kernel
theorem dX1_age_129 : decode cX1_age 129 = .ok (.aload_n 0, 1) := by decide +kernel
theorem dX1_age_130 : decode cX1_age 130 = .ok (.getfield 27, 3) := by decide +kernel
theorem dX1_age_133 : decode cX1_age 133 = .ok (.dup, 1) := by decide +kernel
theorem dX1_age_134 : decode cX1_age 134 = .ok (.getfield 167, 3) := by decide +kernel
theorem dX1_age_137 : decode cX1_age 137 = .ok (.iconst 1, 1) := by decide +kernel
theorem dX1_age_138 : decode cX1_age 138 = .ok (.iadd, 1) := by decide +kernel
theorem dX1_age_139 : decode cX1_age 139 = .ok (.putfield 167, 3) := by decide +kernel
theorem dX1_age_142 : decode cX1_age 142 = .ok (.goto 5, 3) := by decide +kernel
theorem dX1_age_145 : decode cX1_age 145 = .ok (.iconst 0, 1) := by decide +kernel
theorem dX1_age_146 : decode cX1_age 146 = .ok (.ireturn, 1) := by decide +kernel
theorem dX1_age_147 : decode cX1_age 147 = .ok (.iconst 1, 1) := by decide +kernel
theorem dX1_age_148 : decode cX1_age 148 = .ok (.ireturn, 1) := by decide +kernel
theorem dX2_init_0 : decode cX2_init 0 = .ok (.aload_n 0, 1) := by decide +kernel
theorem dX2_init_1 : decode cX2_init 1 = .ok (.invokespecial 3, 3) := by decide +kernel
theorem dX2_init_4 : decode cX2_init 4 = .ok (.return_, 1) := by decide +kernel
theorem dX2_copyFrom_0 : decode cX2_copyFrom 0 = .ok (.aload_n 0, 1) := by decide +kernel
theorem dX2_copyFrom_1 : decode cX2_copyFrom 1 = .ok (.aload_n 1, 1) := by decide +kernel
theorem dX2_copyFrom_2 : decode cX2_copyFrom 2 = .ok (.getfield 9, 3) := by decide +kernel
theorem dX2_copyFrom_5 : decode cX2_copyFrom 5 = .ok (.putfield 9, 3) := by decide +kernel
theorem dX2_copyFrom_8 : decode cX2_copyFrom 8 = .ok (.aload_n 0, 1) := by decide +kernel
theorem dX2_copyFrom_9 : decode cX2_copyFrom 9 = .ok (.aload_n 1, 1) := by decide +kernel
theorem dX2_copyFrom_10 : decode cX2_copyFrom 10 = .ok (.getfield 15, 3) := by decide +kernel
theorem dX2_copyFrom_13 : decode cX2_copyFrom 13 = .ok (.putfield 15, 3) := by decide +kernel
theorem dX2_copyFrom_16 : decode cX2_copyFrom 16 = .ok (.aload_n 0, 1) := by decide +kernel
theorem dX2_copyFrom_17 : decode cX2_copyFrom 17 = .ok (.aload_n 1, 1) := by decide +kernel
theorem dX2_copyFrom_18 : decode cX2_copyFrom 18 = .ok (.getfield 19, 3) := by decide +kernel
theorem dX2_copyFrom_21 : decode cX2_copyFrom 21 = .ok (.putfield 19, 3) := by decide +kernel
theorem dX2_copyFrom_24 : decode cX2_copyFrom 24 = .ok (.aload_n 0, 1) := by decide +kernel
theorem dX2_copyFrom_25 : decode cX2_copyFrom 25 = .ok (.aload_n 1, 1) := by decide +kernel
theorem dX2_copyFrom_26 : decode cX2_copyFrom 26 = .ok (.getfield 22, 3) := by decide +kernel
theorem dX2_copyFrom_29 : decode cX2_copyFrom 29 = .ok (.putfield 22, 3) := by decide +kernel
theorem dX2_copyFrom_32 : decode cX2_copyFrom 32 = .ok (.aload_n 0, 1) := by decide +kernel
theorem dX2_copyFrom_33 : decode cX2_copyFrom 33 = .ok (.aload_n 1, 1) := by decide +kernel
theorem dX2_copyFrom_34 : decode cX2_copyFrom 34 = .ok (.getfield 25, 3) := by decide +kernel
theorem dX2_copyFrom_37 : decode cX2_copyFrom 37 = .ok (.putfield 25, 3) := by decide +kernel
theorem dX2_copyFrom_40 : decode cX2_copyFrom 40 = .ok (.aload_n 0, 1) := by decide +kernel
theorem dX2_copyFrom_41 : decode cX2_copyFrom 41 = .ok (.aload_n 1, 1) := by decide +kernel
theorem dX2_copyFrom_42 : decode cX2_copyFrom 42 = .ok (.getfield 28, 3) := by decide +kernel
theorem dX2_copyFrom_45 : decode cX2_copyFrom 45 = .ok (.putfield 28, 3) := by decide +kernel
theorem dX2_copyFrom_48 : decode cX2_copyFrom 48 = .ok (.aload_n 0, 1) := by decide +kernel
theorem dX2_copyFrom_49 : decode cX2_copyFrom 49 = .ok (.aload_n 1, 1) := by decide +kernel
theorem dX2_copyFrom_50 : decode cX2_copyFrom 50 = .ok (.getfield 31, 3) := by decide +kernel
theorem dX2_copyFrom_53 : decode cX2_copyFrom 53 = .ok (.putfield 31, 3) := by decide +kernel
theorem dX2_copyFrom_56 : decode cX2_copyFrom 56 = .ok (.aload_n 0, 1) := by decide +kernel
theorem dX2_copyFrom_57 : decode cX2_copyFrom 57 = .ok (.aload_n 1, 1) := by decide +kernel
theorem dX2_copyFrom_58 : decode cX2_copyFrom 58 = .ok (.getfield 34, 3) := by decide +kernel
theorem dX2_copyFrom_61 : decode cX2_copyFrom 61 = .ok (.putfield 34, 3) := by decide +kernel
theorem dX2_copyFrom_64 : decode cX2_copyFrom 64 = .ok (.aload_n 0, 1) := by decide +kernel
theorem dX2_copyFrom_65 : decode cX2_copyFrom 65 = .ok (.aload_n 1, 1) := by decide +kernel
theorem dX2_copyFrom_66 : decode cX2_copyFrom 66 = .ok (.getfield 37, 3) := by decide +kernel
theorem dX2_copyFrom_69 : decode cX2_copyFrom 69 = .ok (.putfield 37, 3) := by decide +kernel
theorem dX2_copyFrom_72 : decode cX2_copyFrom 72 = .ok (.aload_n 0, 1) := by decide +kernel
theorem dX2_copyFrom_73 : decode cX2_copyFrom 73 = .ok (.aload_n 1, 1) := by decide +kernel
theorem dX2_copyFrom_74 : decode cX2_copyFrom 74 = .ok (.getfield 40, 3) := by decide +kernel
theorem dX2_copyFrom_77 : decode cX2_copyFrom 77 = .ok (.putfield 40, 3) := by decide +kernel
theorem dX2_copyFrom_80 : decode cX2_copyFrom 80 = .ok (.aload_n 0, 1) := by decide +kernel
theorem dX2_copyFrom_81 : decode cX2_copyFrom 81 = .ok (.aload_n 1, 1) := by decide +kernel
theorem dX2_copyFrom_82 : decode cX2_copyFrom 82 = .ok (.getfield 43, 3) := by decide +kernel
theorem dX2_copyFrom_85 : decode cX2_copyFrom 85 = .ok (.putfield 43, 3) := by decide +kernel
theorem dX2_copyFrom_88 : decode cX2_copyFrom 88 = .ok (.aload_n 0, 1) := by decide +kernel
theorem dX2_copyFrom_89 : decode cX2_copyFrom 89 = .ok (.aload_n 1, 1) := by decide +kernel
theorem dX2_copyFrom_90 : decode cX2_copyFrom 90 = .ok (.getfield 46, 3) := by decide +kernel
theorem dX2_copyFrom_93 : decode cX2_copyFrom 93 = .ok (.putfield 46, 3) := by decide +kernel
theorem dX2_copyFrom_96 : decode cX2_copyFrom 96 = .ok (.aload_n 0, 1) := by decide +kernel
theorem dX2_copyFrom_97 : decode cX2_copyFrom 97 = .ok (.aload_n 1, 1) := by decide +kernel
theorem dX2_copyFrom_98 : decode cX2_copyFrom 98 = .ok (.getfield 49, 3) := by decide +kernel
theorem dX2_copyFrom_101 : decode cX2_copyFrom 101 = .ok (.putfield 49, 3) := by decide +kernel
theorem dX2_copyFrom_104 : decode cX2_copyFrom 104 = .ok (.aload_n 0, 1) := by decide +kernel
theorem dX2_copyFrom_105 : decode cX2_copyFrom 105 = .ok (.aload_n 1, 1) := by decide +kernel
theorem dX2_copyFrom_106 : decode cX2_copyFrom 106 = .ok (.getfield 52, 3) := by decide +kernel
theorem dX2_copyFrom_109 : decode cX2_copyFrom 109 = .ok (.putfield 52, 3) := by decide +kernel
theorem dX2_copyFrom_112 : decode cX2_copyFrom 112 = .ok (.return_, 1) := by decide +kernel
theorem dX2_makeNew_0 : decode cX2_makeNew 0 = .ok (.aload_n 0, 1) := by decide +kernel
theorem dX2_makeNew_1 : decode cX2_makeNew 1 = .ok (.iconst 1, 1) := by decide +kernel
theorem dX2_makeNew_2 : decode cX2_makeNew 2 = .ok (.putfield 9, 3) := by decide +kernel
theorem dX2_makeNew_5 : decode cX2_makeNew 5 = .ok (.aload_n 0, 1) := by decide +kernel
theorem dX2_makeNew_6 : decode cX2_makeNew 6 = .ok (.iload_n 1, 1) := by decide +kernel
theorem dX2_makeNew_7 : decode cX2_makeNew 7 = .ok (.putfield 15, 3) := by decide +kernel
theorem dX2_makeNew_10 : decode cX2_makeNew 10 = .ok (.aload_n 0, 1) := by decide +kernel
theorem dX2_makeNew_11 : decode cX2_makeNew 11 = .ok (.iload_n 2, 1) := by decide +kernel
theorem dX2_makeNew_12 : decode cX2_makeNew 12 = .ok (.putfield 19, 3) := by decide +kernel
theorem dX2_makeNew_15 : decode cX2_makeNew 15 = .ok (.aload_n 0, 1) := by decide +kernel
theorem dX2_makeNew_16 : decode cX2_makeNew 16 = .ok (.iconst 0, 1) := by decide +kernel
theorem dX2_makeNew_17 : decode cX2_makeNew 17 = .ok (.putfield 22, 3) := by decide +kernel
theorem dX2_makeNew_20 : decode cX2_makeNew 20 = .ok (.aload_n 0, 1) := by decide +kernel
theorem dX2_makeNew_21 : decode cX2_makeNew 21 = .ok (.iconst (-1), 1) := by decide +kernel
theorem dX2_makeNew_22 : decode cX2_makeNew 22 = .ok (.putfield 25, 3) := by decide +kernel
theorem dX2_makeNew_25 : decode cX2_makeNew 25 = .ok (.aload_n 0, 1) := by decide +kernel
theorem dX2_makeNew_26 : decode cX2_makeNew 26 = .ok (.iconst (-1), 1) := by decide +kernel
theorem dX2_makeNew_27 : decode cX2_makeNew 27 = .ok (.putfield 28, 3) := by decide +kernel
theorem dX2_makeNew_30 : decode cX2_makeNew 30 = .ok (.aload_n 0, 1) := by decide +kernel
theorem dX2_makeNew_31 : decode cX2_makeNew 31 = .ok (.iconst (-1), 1) := by decide +kernel
theorem dX2_makeNew_32 : decode cX2_makeNew 32 = .ok (.putfield 31, 3) := by decide +kernel
theorem dX2_makeNew_35 : decode cX2_makeNew 35 = .ok (.aload_n 0, 1) := by decide +kernel
theorem dX2_makeNew_36 : decode cX2_makeNew 36 = .ok (.iconst 0, 1) := by decide +kernel
theorem dX2_makeNew_37 : decode cX2_makeNew 37 = .ok (.putfield 34, 3) := by decide +kernel
theorem dX2_makeNew_40 : decode cX2_makeNew 40 = .ok (.aload_n 0, 1) := by decide +kernel
theorem dX2_makeNew_41 : decode cX2_makeNew 41 = .ok (.iconst 1, 1) := by decide +kernel
theorem dX2_makeNew_42 : decode cX2_makeNew 42 = .ok (.putfield 37, 3) := by decide +kernel
theorem dX2_makeNew_45 : decode cX2_makeNew 45 = .ok (.aload_n 0, 1) := by decide +kernel
theorem dX2_makeNew_46 : decode cX2_makeNew 46 = .ok (.iload_n 3, 1) := by decide +kernel
theorem dX2_makeNew_47 : decode cX2_makeNew 47 = .ok (.putfield 40, 3) := by decide +kernel
theorem dX2_makeNew_50 : decode cX2_makeNew 50 = .ok (.aload_n 0, 1) := by decide +kernel
theorem dX2_makeNew_51 : decode cX2_makeNew 51 = .ok (.iload_n 3, 1) := by decide +kernel
theorem dX2_makeNew_52 : decode cX2_makeNew 52 = .ok (.putfield 43, 3) := by decide +kernel
theorem dX2_makeNew_55 : decode cX2_makeNew 55 = .ok (.aload_n 0, 1) := by decide +kernel
theorem dX2_makeNew_56 : decode cX2_makeNew 56 = .ok (.iconst 0, 1) := by decide +kernel
theorem dX2_makeNew_57 : decode cX2_makeNew 57 = .ok (.putfield 46, 3) := by decide +kernel
theorem dX2_makeNew_60 : decode cX2_makeNew 60 = .ok (.aload_n 0, 1) := by decide +kernel
theorem dX2_makeNew_61 : decode cX2_makeNew 61 = .ok (.iconst 0, 1) := by decide +kernel
theorem dX2_makeNew_62 : decode cX2_makeNew 62 = .ok (.putfield 49, 3) := by decide +kernel
theorem dX2_makeNew_65 : decode cX2_makeNew 65 = .ok (.aload_n 0, 1) := by decide +kernel
theorem dX2_makeNew_66 : decode cX2_makeNew 66 = .ok (.iconst 0, 1) := by decide +kernel
theorem dX2_makeNew_67 : decode cX2_makeNew 67 = .ok (.putfield 52, 3) := by decide +kernel
theorem dX2_makeNew_70 : decode cX2_makeNew 70 = .ok (.return_, 1) := by decide +kernel
theorem dX3_init_0 : decode cX3_init 0 = .ok (.aload_n 0, 1) := by decide +kernel
theorem dX3_init_1 : decode cX3_init 1 = .ok (.invokespecial 1, 3) := by decide +kernel
theorem dX3_init_4 : decode cX3_init 4 = .ok (.aload_n 0, 1) := by decide +kernel
theorem dX3_init_5 : decode cX3_init 5 = .ok (.new 7, 3) := by decide +kernel
theorem dX3_init_8 : decode cX3_init 8 = .ok (.dup, 1) := by decide +kernel
theorem dX3_init_9 : decode cX3_init 9 = .ok (.invokespecial 9, 3) := by decide +kernel
theorem dX3_init_12 : decode cX3_init 12 = .ok (.putfield 10, 3) := by decide +kernel
theorem dX3_init_15 : decode cX3_init 15 = .ok (.return_, 1) := by decide +kernel
theorem dX3_copyFrom_0 : decode cX3_copyFrom 0 = .ok (.aload_n 0, 1) := by decide +kernel
theorem dX3_copyFrom_1 : decode cX3_copyFrom 1 = .ok (.getfield 10, 3) := by decide +kernel
theorem dX3_copyFrom_4 : decode cX3_copyFrom 4 = .ok (.aload_n 1, 1) := by decide +kernel
theorem dX3_copyFrom_5 : decode cX3_copyFrom 5 = .ok (.getfield 10, 3) := by decide +kernel
theorem dX3_copyFrom_8 : decode cX3_copyFrom 8 = .ok (.getfield 16, 3) := by decide +kernel
theorem dX3_copyFrom_11 : decode cX3_copyFrom 11 = .ok (.aload_n 1, 1) := by decide +kernel
theorem dX3_copyFrom_12 : decode cX3_copyFrom 12 = .ok (.getfield 10, 3) := by decide +kernel
theorem dX3_copyFrom_15 : decode cX3_copyFrom 15 = .ok (.getfield 20, 3) := by decide +kernel
theorem dX3_copyFrom_18 : decode cX3_copyFrom 18 = .ok (.invokevirtual 23, 3) := by decide +kernel
theorem dX3_copyFrom_21 : decode cX3_copyFrom 21 = .ok (.aload_n 0, 1) := by decide +kernel
theorem dX3_copyFrom_22 : decode cX3_copyFrom 22 = .ok (.aload_n 1, 1) := by decide +kernel
theorem dX3_copyFrom_23 : decode cX3_copyFrom 23 = .ok (.getfield 27, 3) := by decide +kernel
theorem dX3_copyFrom_26 : decode cX3_copyFrom 26 = .ok (.putfield 27, 3) := by decide +kernel
theorem dX3_copyFrom_29 : decode cX3_copyFrom 29 = .ok (.aload_n 0, 1) := by decide +kernel
theorem dX3_copyFrom_30 : decode cX3_copyFrom 30 = .ok (.aload_n 1, 1) := by decide +kernel
theorem dX3_copyFrom_31 : decode cX3_copyFrom 31 = .ok (.getfield 30, 3) := by decide +kernel
theorem dX3_copyFrom_34 : decode cX3_copyFrom 34 = .ok (.putfield 30, 3) := by decide +kernel
theorem dX3_copyFrom_37 : decode cX3_copyFrom 37 = .ok (.aload_n 0, 1) := by decide +kernel
theorem dX3_copyFrom_38 : decode cX3_copyFrom 38 = .ok (.aload_n 1, 1) := by decide +kernel
theorem dX3_copyFrom_39 : decode cX3_copyFrom 39 = .ok (.getfield 33, 3) := by decide +kernel
theorem dX3_copyFrom_42 : decode cX3_copyFrom 42 = .ok (.putfield 33, 3) := by decide +kernel
theorem dX3_copyFrom_45 : decode cX3_copyFrom 45 = .ok (.return_, 1) := by decide +kernel
theorem dX3_sleepsThrough_0 : decode cX3_sleepsThrough 0 = .ok (.iload_n 2, 1) := by decide +kernel
theorem dX3_sleepsThrough_1 : decode cX3_sleepsThrough 1 = .ok (.ifCond .ne 29, 3) := by decide +kernel
theorem dX3_sleepsThrough_4 : decode cX3_sleepsThrough 4 = .ok (.aload_n 0, 1) := by decide +kernel
theorem dX3_sleepsThrough_5 : decode cX3_sleepsThrough 5 = .ok (.getfield 27, 3) := by decide +kernel
theorem dX3_sleepsThrough_8 : decode cX3_sleepsThrough 8 = .ok (.iload_n 1, 1) := by decide +kernel
theorem dX3_sleepsThrough_9 : decode cX3_sleepsThrough 9 = .ok (.ishr, 1) := by decide +kernel
theorem dX3_sleepsThrough_10 : decode cX3_sleepsThrough 10 = .ok (.iconst 1, 1) := by decide +kernel
theorem dX3_sleepsThrough_11 : decode cX3_sleepsThrough 11 = .ok (.iand, 1) := by decide +kernel
theorem dX3_sleepsThrough_12 : decode cX3_sleepsThrough 12 = .ok (.ifCond .ne 18, 3) := by decide +kernel
theorem dX3_sleepsThrough_15 : decode cX3_sleepsThrough 15 = .ok (.aload_n 0, 1) := by decide +kernel
theorem dX3_sleepsThrough_16 : decode cX3_sleepsThrough 16 = .ok (.getfield 10, 3) := by decide +kernel
theorem dX3_sleepsThrough_19 : decode cX3_sleepsThrough 19 = .ok (.iload_n 3, 1) := by decide +kernel
theorem dX3_sleepsThrough_20 : decode cX3_sleepsThrough 20 = .ok (.invokevirtual 36, 3) := by decide +kernel
theorem dX3_sleepsThrough_23 : decode cX3_sleepsThrough 23 = .ok (.ifCond .eq 7, 3) := by decide +kernel
theorem dX3_sleepsThrough_26 : decode cX3_sleepsThrough 26 = .ok (.iconst 1, 1) := by decide +kernel
theorem dX3_sleepsThrough_27 : decode cX3_sleepsThrough 27 = .ok (.goto 4, 3) := by decide +kernel
theorem dX3_sleepsThrough_30 : decode cX3_sleepsThrough 30 = .ok (.iconst 0, 1) := by decide +kernel
theorem dX3_sleepsThrough_31 : decode cX3_sleepsThrough 31 = .ok (.ireturn, 1) := by decide +kernel
theorem dX4_init_0 : decode cX4_init 0 = .ok (.aload_n 0, 1) := by decide +kernel
theorem dX4_init_1 : decode cX4_init 1 = .ok (.invokespecial 3, 3) := by decide +kernel
theorem dX4_init_4 : decode cX4_init 4 = .ok (.aload_n 0, 1) := by decide +kernel
theorem dX4_init_5 : decode cX4_init 5 = .ok (.new 9, 3) := by decide +kernel
theorem dX4_init_8 : decode cX4_init 8 = .ok (.dup, 1) := by decide +kernel
theorem dX4_init_9 : decode cX4_init 9 = .ok (.invokespecial 11, 3) := by decide +kernel
theorem dX4_init_12 : decode cX4_init 12 = .ok (.putfield 12, 3) := by decide +kernel
theorem dX4_init_15 : decode cX4_init 15 = .ok (.aload_n 0, 1) := by decide +kernel
theorem dX4_init_16 : decode cX4_init 16 = .ok (.iconst 5, 1) := by decide +kernel
theorem dX4_init_17 : decode cX4_init 17 = .ok (.newarray .int, 2) := by decide +kernel
theorem dX4_init_19 : decode cX4_init 19 = .ok (.putfield 18, 3) := by decide +kernel
theorem dX4_init_22 : decode cX4_init 22 = .ok (.return_, 1) := by decide +kernel
theorem dX4_copyFrom_0 : decode cX4_copyFrom 0 = .ok (.aload_n 0, 1) := by decide +kernel
theorem dX4_copyFrom_1 : decode cX4_copyFrom 1 = .ok (.getfield 12, 3) := by decide +kernel
theorem dX4_copyFrom_4 : decode cX4_copyFrom 4 = .ok (.aload_n 1, 1) := by decide +kernel
theorem dX4_copyFrom_5 : decode cX4_copyFrom 5 = .ok (.getfield 12, 3) := by decide +kernel
theorem dX4_copyFrom_8 : decode cX4_copyFrom 8 = .ok (.getfield 22, 3) := by decide +kernel
theorem dX4_copyFrom_11 : decode cX4_copyFrom 11 = .ok (.aload_n 1, 1) := by decide +kernel
theorem dX4_copyFrom_12 : decode cX4_copyFrom 12 = .ok (.getfield 12, 3) := by decide +kernel
theorem dX4_copyFrom_15 : decode cX4_copyFrom 15 = .ok (.getfield 26, 3) := by decide +kernel
theorem dX4_copyFrom_18 : decode cX4_copyFrom 18 = .ok (.invokevirtual 29, 3) := by decide +kernel
theorem dX4_copyFrom_21 : decode cX4_copyFrom 21 = .ok (.aload_n 1, 1) := by decide +kernel
theorem dX4_copyFrom_22 : decode cX4_copyFrom 22 = .ok (.getfield 18, 3) := by decide +kernel
theorem dX4_copyFrom_25 : decode cX4_copyFrom 25 = .ok (.iconst 0, 1) := by decide +kernel
theorem dX4_copyFrom_26 : decode cX4_copyFrom 26 = .ok (.aload_n 0, 1) := by decide +kernel
theorem dX4_copyFrom_27 : decode cX4_copyFrom 27 = .ok (.getfield 18, 3) := by decide +kernel
theorem dX4_copyFrom_30 : decode cX4_copyFrom 30 = .ok (.iconst 0, 1) := by decide +kernel
theorem dX4_copyFrom_31 : decode cX4_copyFrom 31 = .ok (.iconst 5, 1) := by decide +kernel
theorem dX4_copyFrom_32 : decode cX4_copyFrom 32 = .ok (.invokestatic 33, 3) := by decide +kernel
theorem dX4_copyFrom_35 : decode cX4_copyFrom 35 = .ok (.aload_n 0, 1) := by decide +kernel
theorem dX4_copyFrom_36 : decode cX4_copyFrom 36 = .ok (.aload_n 1, 1) := by decide +kernel
theorem dX4_copyFrom_37 : decode cX4_copyFrom 37 = .ok (.getfield 39, 3) := by decide +kernel
theorem dX4_copyFrom_40 : decode cX4_copyFrom 40 = .ok (.putfield 39, 3) := by decide +kernel
theorem dX4_copyFrom_43 : decode cX4_copyFrom 43 = .ok (.aload_n 0, 1) := by decide +kernel
theorem dX4_copyFrom_44 : decode cX4_copyFrom 44 = .ok (.aload_n 1, 1) := by decide +kernel
theorem dX4_copyFrom_45 : decode cX4_copyFrom 45 = .ok (.getfield 42, 3) := by decide +kernel
theorem dX4_copyFrom_48 : decode cX4_copyFrom 48 = .ok (.putfield 42, 3) := by decide +kernel
theorem dX4_copyFrom_51 : decode cX4_copyFrom 51 = .ok (.return_, 1) := by decide +kernel
theorem dX4_put_0 : decode cX4_put 0 = .ok (.aload_n 0, 1) := by decide +kernel
theorem dX4_put_1 : decode cX4_put 1 = .ok (.getfield 12, 3) := by decide +kernel
theorem dX4_put_4 : decode cX4_put 4 = .ok (.iload_n 1, 1) := by decide +kernel
theorem dX4_put_5 : decode cX4_put 5 = .ok (.iload_n 2, 1) := by decide +kernel
theorem dX4_put_6 : decode cX4_put 6 = .ok (.invokevirtual 29, 3) := by decide +kernel
theorem dX4_put_9 : decode cX4_put 9 = .ok (.aload_n 0, 1) := by decide +kernel
theorem dX4_put_10 : decode cX4_put 10 = .ok (.iload_n 3, 1) := by decide +kernel
theorem dX4_put_11 : decode cX4_put 11 = .ok (.putfield 39, 3) := by decide +kernel
theorem dX4_put_14 : decode cX4_put 14 = .ok (.return_, 1) := by decide +kernel
theorem dX4_covers_0 : decode cX4_covers 0 = .ok (.aload_n 0, 1) := by decide +kernel
theorem dX4_covers_1 : decode cX4_covers 1 = .ok (.getfield 42, 3) := by decide +kernel
theorem dX4_covers_4 : decode cX4_covers 4 = .ok (.ifCond .le 18, 3) := by decide +kernel
theorem dX4_covers_7 : decode cX4_covers 7 = .ok (.aload_n 0, 1) := by decide +kernel
theorem dX4_covers_8 : decode cX4_covers 8 = .ok (.getfield 12, 3) := by decide +kernel
theorem dX4_covers_11 : decode cX4_covers 11 = .ok (.iload_n 1, 1) := by decide +kernel
theorem dX4_covers_12 : decode cX4_covers 12 = .ok (.invokevirtual 45, 3) := by decide +kernel
theorem dX4_covers_15 : decode cX4_covers 15 = .ok (.ifCond .eq 7, 3) := by decide +kernel
theorem dX4_covers_18 : decode cX4_covers 18 = .ok (.iconst 1, 1) := by decide +kernel
theorem dX4_covers_19 : decode cX4_covers 19 = .ok (.goto 4, 3) := by decide +kernel
theorem dX4_covers_22 : decode cX4_covers 22 = .ok (.iconst 0, 1) := by decide +kernel
theorem dX4_covers_23 : decode cX4_covers 23 = .ok (.ireturn, 1) := by decide +kernel
theorem dX4_memberAt_0 : decode cX4_memberAt 0 = .ok (.iload_n 1, 1) := by decide +kernel
theorem dX4_memberAt_1 : decode cX4_memberAt 1 = .ok (.ifCond .lt 29, 3) := by decide +kernel
theorem dX4_memberAt_4 : decode cX4_memberAt 4 = .ok (.iload_n 1, 1) := by decide +kernel
theorem dX4_memberAt_5 : decode cX4_memberAt 5 = .ok (.aload_n 0, 1) := by decide +kernel
theorem dX4_memberAt_6 : decode cX4_memberAt 6 = .ok (.getfield 42, 3) := by decide +kernel
theorem dX4_memberAt_9 : decode cX4_memberAt 9 = .ok (.if_icmp .ge 21, 3) := by decide +kernel
theorem dX4_memberAt_12 : decode cX4_memberAt 12 = .ok (.iload_n 1, 1) := by decide +kernel
theorem dX4_memberAt_13 : decode cX4_memberAt 13 = .ok (.aload_n 0, 1) := by decide +kernel
theorem dX4_memberAt_14 : decode cX4_memberAt 14 = .ok (.getfield 18, 3) := by decide +kernel
theorem dX4_memberAt_17 : decode cX4_memberAt 17 = .ok (.arraylength, 1) := by decide +kernel
theorem dX4_memberAt_18 : decode cX4_memberAt 18 = .ok (.if_icmp .ge 12, 3) := by decide +kernel
theorem dX4_memberAt_21 : decode cX4_memberAt 21 = .ok (.aload_n 0, 1) := by decide +kernel
theorem dX4_memberAt_22 : decode cX4_memberAt 22 = .ok (.getfield 18, 3) := by decide +kernel
theorem dX4_memberAt_25 : decode cX4_memberAt 25 = .ok (.iload_n 1, 1) := by decide +kernel
theorem dX4_memberAt_26 : decode cX4_memberAt 26 = .ok (.iaload, 1) := by decide +kernel
theorem dX4_memberAt_27 : decode cX4_memberAt 27 = .ok (.goto 4, 3) := by decide +kernel
theorem dX4_memberAt_30 : decode cX4_memberAt 30 = .ok (.iconst (-1), 1) := by decide +kernel
theorem dX4_memberAt_31 : decode cX4_memberAt 31 = .ok (.ireturn, 1) := by decide +kernel
theorem dX4_placeOf_0 : decode cX4_placeOf 0 = .ok (.iconst 0, 1) := by decide +kernel
theorem dX4_placeOf_1 : decode cX4_placeOf 1 = .ok (.istore_n 2, 1) := by decide +kernel
theorem dX4_placeOf_2 : decode cX4_placeOf 2 = .ok (.iload_n 2, 1) := by decide +kernel
theorem dX4_placeOf_3 : decode cX4_placeOf 3 = .ok (.aload_n 0, 1) := by decide +kernel
theorem dX4_placeOf_4 : decode cX4_placeOf 4 = .ok (.getfield 42, 3) := by decide +kernel
theorem dX4_placeOf_7 : decode cX4_placeOf 7 = .ok (.if_icmp .ge 30, 3) := by decide +kernel
theorem dX4_placeOf_10 : decode cX4_placeOf 10 = .ok (.iload_n 2, 1) := by decide +kernel
theorem dX4_placeOf_11 : decode cX4_placeOf 11 = .ok (.aload_n 0, 1) := by decide +kernel
theorem dX4_placeOf_12 : decode cX4_placeOf 12 = .ok (.getfield 18, 3) := by decide +kernel
theorem dX4_placeOf_15 : decode cX4_placeOf 15 = .ok (.arraylength, 1) := by decide +kernel
theorem dX4_placeOf_16 : decode cX4_placeOf 16 = .ok (.if_icmp .ge 21, 3) := by decide +kernel
theorem dX4_placeOf_19 : decode cX4_placeOf 19 = .ok (.aload_n 0, 1) := by decide +kernel
theorem dX4_placeOf_20 : decode cX4_placeOf 20 = .ok (.getfield 18, 3) := by decide +kernel
theorem dX4_placeOf_23 : decode cX4_placeOf 23 = .ok (.iload_n 2, 1) := by decide +kernel
theorem dX4_placeOf_24 : decode cX4_placeOf 24 = .ok (.iaload, 1) := by decide +kernel
theorem dX4_placeOf_25 : decode cX4_placeOf 25 = .ok (.iload_n 1, 1) := by decide +kernel
theorem dX4_placeOf_26 : decode cX4_placeOf 26 = .ok (.if_icmp .ne 5, 3) := by decide +kernel
theorem dX4_placeOf_29 : decode cX4_placeOf 29 = .ok (.iload_n 2, 1) := by decide +kernel
theorem dX4_placeOf_30 : decode cX4_placeOf 30 = .ok (.ireturn, 1) := by decide +kernel
theorem dX4_placeOf_31 : decode cX4_placeOf 31 = .ok (.iinc 2 1, 3) := by decide +kernel
theorem dX4_placeOf_34 : decode cX4_placeOf 34 = .ok (.goto (-32), 3) := by decide +kernel
theorem dX4_placeOf_37 : decode cX4_placeOf 37 = .ok (.iconst (-1), 1) := by decide +kernel
theorem dX4_placeOf_38 : decode cX4_placeOf 38 = .ok (.ireturn, 1) := by decide +kernel
theorem dX4_add_0 : decode cX4_add 0 = .ok (.aload_n 0, 1) := by decide +kernel
theorem dX4_add_1 : decode cX4_add 1 = .ok (.iload_n 1, 1) := by decide +kernel
theorem dX4_add_2 : decode cX4_add 2 = .ok (.invokevirtual 49, 3) := by decide +kernel
theorem dX4_add_5 : decode cX4_add 5 = .ok (.iconst (-1), 1) := by decide +kernel
theorem dX4_add_6 : decode cX4_add 6 = .ok (.if_icmp .eq 6, 3) := by decide +kernel
theorem dX4_add_9 : decode cX4_add 9 = .ok (.bipush (-2), 2) := by decide +kernel
theorem dX4_add_11 : decode cX4_add 11 = .ok (.ireturn, 1) := by decide +kernel
theorem dX4_add_12 : decode cX4_add 12 = .ok (.aload_n 0, 1) := by decide +kernel
theorem dX4_add_13 : decode cX4_add 13 = .ok (.getfield 42, 3) := by decide +kernel
theorem dX4_add_16 : decode cX4_add 16 = .ok (.ifCond .lt 15, 3) := by decide +kernel
theorem dX4_add_19 : decode cX4_add 19 = .ok (.aload_n 0, 1) := by decide +kernel
theorem dX4_add_20 : decode cX4_add 20 = .ok (.getfield 42, 3) := by decide +kernel
theorem dX4_add_23 : decode cX4_add 23 = .ok (.aload_n 0, 1) := by decide +kernel
theorem dX4_add_24 : decode cX4_add 24 = .ok (.getfield 18, 3) := by decide +kernel
theorem dX4_add_27 : decode cX4_add 27 = .ok (.arraylength, 1) := by decide +kernel
theorem dX4_add_28 : decode cX4_add 28 = .ok (.if_icmp .lt 6, 3) := by decide +kernel
theorem dX4_add_31 : decode cX4_add 31 = .ok (.bipush (-3), 2) := by decide +kernel
theorem dX4_add_33 : decode cX4_add 33 = .ok (.ireturn, 1) := by decide +kernel
theorem dX4_add_34 : decode cX4_add 34 = .ok (.aload_n 0, 1) := by decide +kernel
theorem dX4_add_35 : decode cX4_add 35 = .ok (.getfield 18, 3) := by decide +kernel
theorem dX4_add_38 : decode cX4_add 38 = .ok (.aload_n 0, 1) := by decide +kernel
theorem dX4_add_39 : decode cX4_add 39 = .ok (.getfield 42, 3) := by decide +kernel
theorem dX4_add_42 : decode cX4_add 42 = .ok (.iload_n 1, 1) := by decide +kernel
theorem dX4_add_43 : decode cX4_add 43 = .ok (.iastore, 1) := by decide +kernel
theorem dX4_add_44 : decode cX4_add 44 = .ok (.aload_n 0, 1) := by decide +kernel
theorem dX4_add_45 : decode cX4_add 45 = .ok (.dup, 1) := by decide +kernel
theorem dX4_add_46 : decode cX4_add 46 = .ok (.getfield 42, 3) := by decide +kernel
theorem dX4_add_49 : decode cX4_add 49 = .ok (.iconst 1, 1) := by decide +kernel
theorem dX4_add_50 : decode cX4_add 50 = .ok (.iadd, 1) := by decide +kernel
theorem dX4_add_51 : decode cX4_add 51 = .ok (.putfield 42, 3) := by decide +kernel
theorem dX4_add_54 : decode cX4_add 54 = .ok (.aload_n 0, 1) := by decide +kernel
theorem dX4_add_55 : decode cX4_add 55 = .ok (.getfield 42, 3) := by decide +kernel
theorem dX4_add_58 : decode cX4_add 58 = .ok (.ireturn, 1) := by decide +kernel
theorem dX4_remove_0 : decode cX4_remove 0 = .ok (.aload_n 0, 1) := by decide +kernel
theorem dX4_remove_1 : decode cX4_remove 1 = .ok (.iload_n 1, 1) := by decide +kernel
theorem dX4_remove_2 : decode cX4_remove 2 = .ok (.invokevirtual 49, 3) := by decide +kernel
theorem dX4_remove_5 : decode cX4_remove 5 = .ok (.istore_n 2, 1) := by decide +kernel
theorem dX4_remove_6 : decode cX4_remove 6 = .ok (.iload_n 2, 1) := by decide +kernel
theorem dX4_remove_7 : decode cX4_remove 7 = .ok (.ifCond .ge 6, 3) := by decide +kernel
theorem dX4_remove_10 : decode cX4_remove 10 = .ok (.bipush (-2), 2) := by decide +kernel
theorem dX4_remove_12 : decode cX4_remove 12 = .ok (.ireturn, 1) := by decide +kernel
theorem dX4_remove_13 : decode cX4_remove 13 = .ok (.iload_n 2, 1) := by decide +kernel
theorem dX4_remove_14 : decode cX4_remove 14 = .ok (.istore_n 3, 1) := by decide +kernel
theorem dX4_remove_15 : decode cX4_remove 15 = .ok (.iload_n 3, 1) := by decide +kernel
theorem dX4_remove_16 : decode cX4_remove 16 = .ok (.iconst 1, 1) := by decide +kernel
theorem dX4_remove_17 : decode cX4_remove 17 = .ok (.iadd, 1) := by decide +kernel
theorem dX4_remove_18 : decode cX4_remove 18 = .ok (.aload_n 0, 1) := by decide +kernel
theorem dX4_remove_19 : decode cX4_remove 19 = .ok (.getfield 42, 3) := by decide +kernel
theorem dX4_remove_22 : decode cX4_remove 22 = .ok (.if_icmp .ge 34, 3) := by decide +kernel
theorem dX4_remove_25 : decode cX4_remove 25 = .ok (.iload_n 3, 1) := by decide +kernel
theorem dX4_remove_26 : decode cX4_remove 26 = .ok (.iconst 1, 1) := by decide +kernel
theorem dX4_remove_27 : decode cX4_remove 27 = .ok (.iadd, 1) := by decide +kernel
theorem dX4_remove_28 : decode cX4_remove 28 = .ok (.aload_n 0, 1) := by decide +kernel
theorem dX4_remove_29 : decode cX4_remove 29 = .ok (.getfield 18, 3) := by decide +kernel
theorem dX4_remove_32 : decode cX4_remove 32 = .ok (.arraylength, 1) := by decide +kernel
theorem dX4_remove_33 : decode cX4_remove 33 = .ok (.if_icmp .ge 23, 3) := by decide +kernel
theorem dX4_remove_36 : decode cX4_remove 36 = .ok (.aload_n 0, 1) := by decide +kernel
theorem dX4_remove_37 : decode cX4_remove 37 = .ok (.getfield 18, 3) := by decide +kernel
theorem dX4_remove_40 : decode cX4_remove 40 = .ok (.iload_n 3, 1) := by decide +kernel
theorem dX4_remove_41 : decode cX4_remove 41 = .ok (.aload_n 0, 1) := by decide +kernel
theorem dX4_remove_42 : decode cX4_remove 42 = .ok (.getfield 18, 3) := by decide +kernel
theorem dX4_remove_45 : decode cX4_remove 45 = .ok (.iload_n 3, 1) := by decide +kernel
theorem dX4_remove_46 : decode cX4_remove 46 = .ok (.iconst 1, 1) := by decide +kernel
theorem dX4_remove_47 : decode cX4_remove 47 = .ok (.iadd, 1) := by decide +kernel
theorem dX4_remove_48 : decode cX4_remove 48 = .ok (.iaload, 1) := by decide +kernel
theorem dX4_remove_49 : decode cX4_remove 49 = .ok (.iastore, 1) := by decide +kernel
theorem dX4_remove_50 : decode cX4_remove 50 = .ok (.iinc 3 1, 3) := by decide +kernel
theorem dX4_remove_53 : decode cX4_remove 53 = .ok (.goto (-38), 3) := by decide +kernel
theorem dX4_remove_56 : decode cX4_remove 56 = .ok (.aload_n 0, 1) := by decide +kernel
theorem dX4_remove_57 : decode cX4_remove 57 = .ok (.dup, 1) := by decide +kernel
theorem dX4_remove_58 : decode cX4_remove 58 = .ok (.getfield 42, 3) := by decide +kernel
theorem dX4_remove_61 : decode cX4_remove 61 = .ok (.iconst 1, 1) := by decide +kernel
theorem dX4_remove_62 : decode cX4_remove 62 = .ok (.isub, 1) := by decide +kernel
theorem dX4_remove_63 : decode cX4_remove 63 = .ok (.putfield 42, 3) := by decide +kernel
theorem dX4_remove_66 : decode cX4_remove 66 = .ok (.aload_n 0, 1) := by decide +kernel
theorem dX4_remove_67 : decode cX4_remove 67 = .ok (.getfield 42, 3) := by decide +kernel
theorem dX4_remove_70 : decode cX4_remove 70 = .ok (.ireturn, 1) := by decide +kernel
