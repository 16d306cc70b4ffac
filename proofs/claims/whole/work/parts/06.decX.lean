theorem dX0_init_0 : decode cX0_init 0 = .ok (.aload_n 0, 1) := by decide +kernel
theorem dX0_init_1 : decode cX0_init 1 = .ok (.invokespecial 1, 3) := by decide +kernel
theorem dX0_init_4 : decode cX0_init 4 = .ok (.return_, 1) := by decide +kernel
theorem dX0_canWrite_0 : decode cX0_canWrite 0 = .ok (.iconst 0, 1) := by decide +kernel
theorem dX0_canWrite_1 : decode cX0_canWrite 1 = .ok (.ireturn, 1) := by decide +kernel
theorem dX1_init_0 : decode cX1_init 0 = .ok (.aload_n 0, 1) := by decide +kernel
theorem dX1_init_1 : decode cX1_init 1 = .ok (.invokespecial 1, 3) := by decide +kernel
theorem dX1_init_4 : decode cX1_init 4 = .ok (.return_, 1) := by decide +kernel
theorem dX1_canRead_0 : decode cX1_canRead 0 = .ok (.iconst 0, 1) := by decide +kernel
theorem dX1_canRead_1 : decode cX1_canRead 1 = .ok (.ireturn, 1) := by decide +kernel
theorem dX2_init_0 : decode cX2_init 0 = .ok (.aload_n 0, 1) := by decide +kernel
theorem dX2_init_1 : decode cX2_init 1 = .ok (.invokespecial 3, 3) := by decide +kernel
theorem dX2_init_4 : decode cX2_init 4 = .ok (.aload_n 0, 1) := by decide +kernel
theorem dX2_init_5 : decode cX2_init 5 = .ok (.bipush 7, 2) := by decide +kernel
theorem dX2_init_7 : decode cX2_init 7 = .ok (.newarray .int, 2) := by decide +kernel
theorem dX2_init_9 : decode cX2_init 9 = .ok (.putfield 9, 3) := by decide +kernel
theorem dX2_init_12 : decode cX2_init 12 = .ok (.aload_n 0, 1) := by decide +kernel
theorem dX2_init_13 : decode cX2_init 13 = .ok (.bipush 7, 2) := by decide +kernel
theorem dX2_init_15 : decode cX2_init 15 = .ok (.newarray .int, 2) := by decide +kernel
theorem dX2_init_17 : decode cX2_init 17 = .ok (.putfield 15, 3) := by decide +kernel
theorem dX2_init_20 : decode cX2_init 20 = .ok (.aload_n 0, 1) := by decide +kernel
theorem dX2_init_21 : decode cX2_init 21 = .ok (.bipush 7, 2) := by decide +kernel
theorem dX2_init_23 : decode cX2_init 23 = .ok (.newarray .boolean, 2) := by decide +kernel
theorem dX2_init_25 : decode cX2_init 25 = .ok (.putfield 18, 3) := by decide +kernel
theorem dX2_init_28 : decode cX2_init 28 = .ok (.aload_n 0, 1) := by decide +kernel
theorem dX2_init_29 : decode cX2_init 29 = .ok (.bipush 7, 2) := by decide +kernel
theorem dX2_init_31 : decode cX2_init 31 = .ok (.newarray .boolean, 2) := by decide +kernel
theorem dX2_init_33 : decode cX2_init 33 = .ok (.putfield 22, 3) := by decide +kernel
theorem dX2_init_36 : decode cX2_init 36 = .ok (.aload_n 0, 1) := by decide +kernel
theorem dX2_init_37 : decode cX2_init 37 = .ok (.bipush 7, 2) := by decide +kernel
theorem dX2_init_39 : decode cX2_init 39 = .ok (.newarray .int, 2) := by decide +kernel
theorem dX2_init_41 : decode cX2_init 41 = .ok (.putfield 25, 3) := by decide +kernel
theorem dX2_init_44 : decode cX2_init 44 = .ok (.aload_n 0, 1) := by decide +kernel
theorem dX2_init_45 : decode cX2_init 45 = .ok (.bipush 7, 2) := by decide +kernel
theorem dX2_init_47 : decode cX2_init 47 = .ok (.newarray .int, 2) := by decide +kernel
theorem dX2_init_49 : decode cX2_init 49 = .ok (.putfield 28, 3) := by decide +kernel
theorem dX2_init_52 : decode cX2_init 52 = .ok (.aload_n 0, 1) := by decide +kernel
theorem dX2_init_53 : decode cX2_init 53 = .ok (.bipush 7, 2) := by decide +kernel
theorem dX2_init_55 : decode cX2_init 55 = .ok (.newarray .int, 2) := by decide +kernel
theorem dX2_init_57 : decode cX2_init 57 = .ok (.putfield 31, 3) := by decide +kernel
theorem dX2_init_60 : decode cX2_init 60 = .ok (.aload_n 0, 1) := by decide +kernel
theorem dX2_init_61 : decode cX2_init 61 = .ok (.bipush 7, 2) := by decide +kernel
theorem dX2_init_63 : decode cX2_init 63 = .ok (.newarray .int, 2) := by decide +kernel
theorem dX2_init_65 : decode cX2_init 65 = .ok (.putfield 34, 3) := by decide +kernel
theorem dX2_init_68 : decode cX2_init 68 = .ok (.aload_n 0, 1) := by decide +kernel
theorem dX2_init_69 : decode cX2_init 69 = .ok (.bipush 7, 2) := by decide +kernel
theorem dX2_init_71 : decode cX2_init 71 = .ok (.newarray .int, 2) := by decide +kernel
theorem dX2_init_73 : decode cX2_init 73 = .ok (.putfield 37, 3) := by decide +kernel
theorem dX2_init_76 : decode cX2_init 76 = .ok (.aload_n 0, 1) := by decide +kernel
theorem dX2_init_77 : decode cX2_init 77 = .ok (.bipush 7, 2) := by decide +kernel
theorem dX2_init_79 : decode cX2_init 79 = .ok (.newarray .int, 2) := by decide +kernel
theorem dX2_init_81 : decode cX2_init 81 = .ok (.putfield 40, 3) := by decide +kernel
theorem dX2_init_84 : decode cX2_init 84 = .ok (.return_, 1) := by decide +kernel
theorem dX2_lookAt_0 : decode cX2_lookAt 0 = .ok (.aload_n 0, 1) := by decide +kernel
theorem dX2_lookAt_1 : decode cX2_lookAt 1 = .ok (.aload_n 1, 1) := by decide +kernel
theorem dX2_lookAt_2 : decode cX2_lookAt 2 = .ok (.getfield 43, 3) := by decide +kernel
theorem dX2_lookAt_5 : decode cX2_lookAt 5 = .ok (.putfield 49, 3) := by decide +kernel
theorem dX2_lookAt_8 : decode cX2_lookAt 8 = .ok (.iconst 0, 1) := by decide +kernel
theorem dX2_lookAt_9 : decode cX2_lookAt 9 = .ok (.istore_n 3, 1) := by decide +kernel
theorem dX2_lookAt_10 : decode cX2_lookAt 10 = .ok (.iload_n 3, 1) := by decide +kernel
theorem dX2_lookAt_11 : decode cX2_lookAt 11 = .ok (.aload_n 0, 1) := by decide +kernel
theorem dX2_lookAt_12 : decode cX2_lookAt 12 = .ok (.getfield 49, 3) := by decide +kernel
theorem dX2_lookAt_15 : decode cX2_lookAt 15 = .ok (.if_icmp .ge 95, 3) := by decide +kernel
theorem dX2_lookAt_18 : decode cX2_lookAt 18 = .ok (.aload_n 1, 1) := by decide +kernel
theorem dX2_lookAt_19 : decode cX2_lookAt 19 = .ok (.aload_n 2, 1) := by decide +kernel
theorem dX2_lookAt_20 : decode cX2_lookAt 20 = .ok (.iload_n 3, 1) := by decide +kernel
theorem dX2_lookAt_21 : decode cX2_lookAt 21 = .ok (.invokestatic 50, 3) := by decide +kernel
theorem dX2_lookAt_24 : decode cX2_lookAt 24 = .ok (.astore 4, 2) := by decide +kernel
theorem dX2_lookAt_26 : decode cX2_lookAt 26 = .ok (.aload 4, 2) := by decide +kernel
theorem dX2_lookAt_28 : decode cX2_lookAt 28 = .ok (.ifnull 76, 3) := by decide +kernel
theorem dX2_lookAt_31 : decode cX2_lookAt 31 = .ok (.aload_n 0, 1) := by decide +kernel
theorem dX2_lookAt_32 : decode cX2_lookAt 32 = .ok (.getfield 18, 3) := by decide +kernel
theorem dX2_lookAt_35 : decode cX2_lookAt 35 = .ok (.iload_n 3, 1) := by decide +kernel
theorem dX2_lookAt_36 : decode cX2_lookAt 36 = .ok (.aload 4, 2) := by decide +kernel
theorem dX2_lookAt_38 : decode cX2_lookAt 38 = .ok (.invokevirtual 54, 3) := by decide +kernel
theorem dX2_lookAt_41 : decode cX2_lookAt 41 = .ok (.bastore, 1) := by decide +kernel
theorem dX2_lookAt_42 : decode cX2_lookAt 42 = .ok (.aload_n 0, 1) := by decide +kernel
theorem dX2_lookAt_43 : decode cX2_lookAt 43 = .ok (.getfield 22, 3) := by decide +kernel
theorem dX2_lookAt_46 : decode cX2_lookAt 46 = .ok (.iload_n 3, 1) := by decide +kernel
theorem dX2_lookAt_47 : decode cX2_lookAt 47 = .ok (.aload 4, 2) := by decide +kernel
theorem dX2_lookAt_49 : decode cX2_lookAt 49 = .ok (.invokevirtual 60, 3) := by decide +kernel
theorem dX2_lookAt_52 : decode cX2_lookAt 52 = .ok (.bastore, 1) := by decide +kernel
theorem dX2_lookAt_53 : decode cX2_lookAt 53 = .ok (.aload_n 0, 1) := by decide +kernel
theorem dX2_lookAt_54 : decode cX2_lookAt 54 = .ok (.getfield 25, 3) := by decide +kernel
theorem dX2_lookAt_57 : decode cX2_lookAt 57 = .ok (.iload_n 3, 1) := by decide +kernel
theorem dX2_lookAt_58 : decode cX2_lookAt 58 = .ok (.aload 4, 2) := by decide +kernel
theorem dX2_lookAt_60 : decode cX2_lookAt 60 = .ok (.aload_n 1, 1) := by decide +kernel
theorem dX2_lookAt_61 : decode cX2_lookAt 61 = .ok (.getfield 63, 3) := by decide +kernel
theorem dX2_lookAt_64 : decode cX2_lookAt 64 = .ok (.iload_n 3, 1) := by decide +kernel
theorem dX2_lookAt_65 : decode cX2_lookAt 65 = .ok (.iaload, 1) := by decide +kernel
theorem dX2_lookAt_66 : decode cX2_lookAt 66 = .ok (.aload_n 1, 1) := by decide +kernel
theorem dX2_lookAt_67 : decode cX2_lookAt 67 = .ok (.getfield 66, 3) := by decide +kernel
theorem dX2_lookAt_70 : decode cX2_lookAt 70 = .ok (.iload_n 3, 1) := by decide +kernel
theorem dX2_lookAt_71 : decode cX2_lookAt 71 = .ok (.iaload, 1) := by decide +kernel
theorem dX2_lookAt_72 : decode cX2_lookAt 72 = .ok (.invokevirtual 69, 3) := by decide +kernel
theorem dX2_lookAt_75 : decode cX2_lookAt 75 = .ok (.iastore, 1) := by decide +kernel
theorem dX2_lookAt_76 : decode cX2_lookAt 76 = .ok (.aload_n 0, 1) := by decide +kernel
theorem dX2_lookAt_77 : decode cX2_lookAt 77 = .ok (.getfield 28, 3) := by decide +kernel
theorem dX2_lookAt_80 : decode cX2_lookAt 80 = .ok (.iload_n 3, 1) := by decide +kernel
theorem dX2_lookAt_81 : decode cX2_lookAt 81 = .ok (.aload 4, 2) := by decide +kernel
theorem dX2_lookAt_83 : decode cX2_lookAt 83 = .ok (.aload_n 1, 1) := by decide +kernel
theorem dX2_lookAt_84 : decode cX2_lookAt 84 = .ok (.getfield 63, 3) := by decide +kernel
theorem dX2_lookAt_87 : decode cX2_lookAt 87 = .ok (.iload_n 3, 1) := by decide +kernel
theorem dX2_lookAt_88 : decode cX2_lookAt 88 = .ok (.iaload, 1) := by decide +kernel
theorem dX2_lookAt_89 : decode cX2_lookAt 89 = .ok (.invokevirtual 73, 3) := by decide +kernel
theorem dX2_lookAt_92 : decode cX2_lookAt 92 = .ok (.iastore, 1) := by decide +kernel
theorem dX2_lookAt_93 : decode cX2_lookAt 93 = .ok (.aload_n 0, 1) := by decide +kernel
theorem dX2_lookAt_94 : decode cX2_lookAt 94 = .ok (.getfield 31, 3) := by decide +kernel
theorem dX2_lookAt_97 : decode cX2_lookAt 97 = .ok (.iload_n 3, 1) := by decide +kernel
theorem dX2_lookAt_98 : decode cX2_lookAt 98 = .ok (.aload_n 1, 1) := by decide +kernel
theorem dX2_lookAt_99 : decode cX2_lookAt 99 = .ok (.iload_n 3, 1) := by decide +kernel
theorem dX2_lookAt_100 : decode cX2_lookAt 100 = .ok (.invokevirtual 77, 3) := by decide +kernel
theorem dX2_lookAt_103 : decode cX2_lookAt 103 = .ok (.iastore, 1) := by decide +kernel
theorem dX2_lookAt_104 : decode cX2_lookAt 104 = .ok (.iinc 3 1, 3) := by decide +kernel
theorem dX2_lookAt_107 : decode cX2_lookAt 107 = .ok (.goto (-97), 3) := by decide +kernel
theorem dX2_lookAt_110 : decode cX2_lookAt 110 = .ok (.return_, 1) := by decide +kernel
theorem dX2_teachToo_0 : decode cX2_teachToo 0 = .ok (.aload_n 1, 1) := by decide +kernel
theorem dX2_teachToo_1 : decode cX2_teachToo 1 = .ok (.aload_n 2, 1) := by decide +kernel
theorem dX2_teachToo_2 : decode cX2_teachToo 2 = .ok (.iload_n 3, 1) := by decide +kernel
theorem dX2_teachToo_3 : decode cX2_teachToo 3 = .ok (.invokestatic 50, 3) := by decide +kernel
theorem dX2_teachToo_6 : decode cX2_teachToo 6 = .ok (.astore 5, 2) := by decide +kernel
theorem dX2_teachToo_8 : decode cX2_teachToo 8 = .ok (.aload 5, 2) := by decide +kernel
theorem dX2_teachToo_10 : decode cX2_teachToo 10 = .ok (.ifnull 29, 3) := by decide +kernel
theorem dX2_teachToo_13 : decode cX2_teachToo 13 = .ok (.aload_n 0, 1) := by decide +kernel
theorem dX2_teachToo_14 : decode cX2_teachToo 14 = .ok (.getfield 25, 3) := by decide +kernel
theorem dX2_teachToo_17 : decode cX2_teachToo 17 = .ok (.iload_n 3, 1) := by decide +kernel
theorem dX2_teachToo_18 : decode cX2_teachToo 18 = .ok (.aload 5, 2) := by decide +kernel
theorem dX2_teachToo_20 : decode cX2_teachToo 20 = .ok (.aload_n 1, 1) := by decide +kernel
theorem dX2_teachToo_21 : decode cX2_teachToo 21 = .ok (.getfield 63, 3) := by decide +kernel
theorem dX2_teachToo_24 : decode cX2_teachToo 24 = .ok (.iload_n 3, 1) := by decide +kernel
theorem dX2_teachToo_25 : decode cX2_teachToo 25 = .ok (.iaload, 1) := by decide +kernel
theorem dX2_teachToo_26 : decode cX2_teachToo 26 = .ok (.aload_n 1, 1) := by decide +kernel
theorem dX2_teachToo_27 : decode cX2_teachToo 27 = .ok (.getfield 66, 3) := by decide +kernel
theorem dX2_teachToo_30 : decode cX2_teachToo 30 = .ok (.iload_n 3, 1) := by decide +kernel
theorem dX2_teachToo_31 : decode cX2_teachToo 31 = .ok (.iaload, 1) := by decide +kernel
theorem dX2_teachToo_32 : decode cX2_teachToo 32 = .ok (.iload 4, 2) := by decide +kernel
theorem dX2_teachToo_34 : decode cX2_teachToo 34 = .ok (.ior, 1) := by decide +kernel
theorem dX2_teachToo_35 : decode cX2_teachToo 35 = .ok (.invokevirtual 69, 3) := by decide +kernel
theorem dX2_teachToo_38 : decode cX2_teachToo 38 = .ok (.iastore, 1) := by decide +kernel
theorem dX2_teachToo_39 : decode cX2_teachToo 39 = .ok (.return_, 1) := by decide +kernel
theorem dX2_kindOf_0 : decode cX2_kindOf 0 = .ok (.aload_n 0, 1) := by decide +kernel
theorem dX2_kindOf_1 : decode cX2_kindOf 1 = .ok (.getfield 80, 3) := by decide +kernel
theorem dX2_kindOf_4 : decode cX2_kindOf 4 = .ok (.iload_n 2, 1) := by decide +kernel
theorem dX2_kindOf_5 : decode cX2_kindOf 5 = .ok (.iaload, 1) := by decide +kernel
theorem dX2_kindOf_6 : decode cX2_kindOf 6 = .ok (.istore_n 3, 1) := by decide +kernel
theorem dX2_kindOf_7 : decode cX2_kindOf 7 = .ok (.iload_n 3, 1) := by decide +kernel
theorem dX2_kindOf_8 : decode cX2_kindOf 8 = .ok (.ifCond .lt 15, 3) := by decide +kernel
theorem dX2_kindOf_11 : decode cX2_kindOf 11 = .ok (.iload_n 3, 1) := by decide +kernel
theorem dX2_kindOf_12 : decode cX2_kindOf 12 = .ok (.aload_n 1, 1) := by decide +kernel
theorem dX2_kindOf_13 : decode cX2_kindOf 13 = .ok (.arraylength, 1) := by decide +kernel
theorem dX2_kindOf_14 : decode cX2_kindOf 14 = .ok (.if_icmp .ge 9, 3) := by decide +kernel
theorem dX2_kindOf_17 : decode cX2_kindOf 17 = .ok (.aload_n 1, 1) := by decide +kernel
theorem dX2_kindOf_18 : decode cX2_kindOf 18 = .ok (.iload_n 3, 1) := by decide +kernel
theorem dX2_kindOf_19 : decode cX2_kindOf 19 = .ok (.aaload, 1) := by decide +kernel
theorem dX2_kindOf_20 : decode cX2_kindOf 20 = .ok (.goto 4, 3) := by decide +kernel
theorem dX2_kindOf_23 : decode cX2_kindOf 23 = .ok (.aconst_null, 1) := by decide +kernel
theorem dX2_kindOf_24 : decode cX2_kindOf 24 = .ok (.areturn, 1) := by decide +kernel
theorem dX2_goTo_0 : decode cX2_goTo 0 = .ok (.iload_n 1, 1) := by decide +kernel
theorem dX2_goTo_1 : decode cX2_goTo 1 = .ok (.istore_n 2, 1) := by decide +kernel
theorem dX2_goTo_2 : decode cX2_goTo 2 = .ok (.iconst 0, 1) := by decide +kernel
theorem dX2_goTo_3 : decode cX2_goTo 3 = .ok (.istore_n 3, 1) := by decide +kernel
theorem dX2_goTo_4 : decode cX2_goTo 4 = .ok (.iconst 0, 1) := by decide +kernel
theorem dX2_goTo_5 : decode cX2_goTo 5 = .ok (.istore 4, 2) := by decide +kernel
theorem dX2_goTo_7 : decode cX2_goTo 7 = .ok (.iload 4, 2) := by decide +kernel
theorem dX2_goTo_9 : decode cX2_goTo 9 = .ok (.aload_n 0, 1) := by decide +kernel
theorem dX2_goTo_10 : decode cX2_goTo 10 = .ok (.getfield 49, 3) := by decide +kernel
theorem dX2_goTo_13 : decode cX2_goTo 13 = .ok (.if_icmp .ge 84, 3) := by decide +kernel
theorem dX2_goTo_16 : decode cX2_goTo 16 = .ok (.getstatic 83, 3) := by decide +kernel
theorem dX2_goTo_19 : decode cX2_goTo 19 = .ok (.aload_n 0, 1) := by decide +kernel
theorem dX2_goTo_20 : decode cX2_goTo 20 = .ok (.getfield 49, 3) := by decide +kernel
theorem dX2_goTo_23 : decode cX2_goTo 23 = .ok (.iconst 1, 1) := by decide +kernel
theorem dX2_goTo_24 : decode cX2_goTo 24 = .ok (.isub, 1) := by decide +kernel
theorem dX2_goTo_25 : decode cX2_goTo 25 = .ok (.iload 4, 2) := by decide +kernel
theorem dX2_goTo_27 : decode cX2_goTo 27 = .ok (.isub, 1) := by decide +kernel
theorem dX2_goTo_28 : decode cX2_goTo 28 = .ok (.iaload, 1) := by decide +kernel
theorem dX2_goTo_29 : decode cX2_goTo 29 = .ok (.istore 5, 2) := by decide +kernel
theorem dX2_goTo_31 : decode cX2_goTo 31 = .ok (.iconst 0, 1) := by decide +kernel
theorem dX2_goTo_32 : decode cX2_goTo 32 = .ok (.istore 6, 2) := by decide +kernel
theorem dX2_goTo_34 : decode cX2_goTo 34 = .ok (.iload 6, 2) := by decide +kernel
theorem dX2_goTo_36 : decode cX2_goTo 36 = .ok (.aload_n 0, 1) := by decide +kernel
theorem dX2_goTo_37 : decode cX2_goTo 37 = .ok (.getfield 49, 3) := by decide +kernel
theorem dX2_goTo_40 : decode cX2_goTo 40 = .ok (.if_icmp .ge 51, 3) := by decide +kernel
theorem dX2_goTo_43 : decode cX2_goTo 43 = .ok (.iload_n 3, 1) := by decide +kernel
theorem dX2_goTo_44 : decode cX2_goTo 44 = .ok (.iload 6, 2) := by decide +kernel
theorem dX2_goTo_46 : decode cX2_goTo 46 = .ok (.ishr, 1) := by decide +kernel
theorem dX2_goTo_47 : decode cX2_goTo 47 = .ok (.iconst 1, 1) := by decide +kernel
theorem dX2_goTo_48 : decode cX2_goTo 48 = .ok (.iand, 1) := by decide +kernel
theorem dX2_goTo_49 : decode cX2_goTo 49 = .ok (.ifCond .eq 6, 3) := by decide +kernel
theorem dX2_goTo_52 : decode cX2_goTo 52 = .ok (.goto 33, 3) := by decide +kernel
theorem dX2_goTo_55 : decode cX2_goTo 55 = .ok (.iload_n 2, 1) := by decide +kernel
theorem dX2_goTo_56 : decode cX2_goTo 56 = .ok (.iload 5, 2) := by decide +kernel
theorem dX2_goTo_58 : decode cX2_goTo 58 = .ok (.if_icmp .ge 22, 3) := by decide +kernel
theorem dX2_goTo_61 : decode cX2_goTo 61 = .ok (.aload_n 0, 1) := by decide +kernel
theorem dX2_goTo_62 : decode cX2_goTo 62 = .ok (.getfield 9, 3) := by decide +kernel
theorem dX2_goTo_65 : decode cX2_goTo 65 = .ok (.iload 4, 2) := by decide +kernel
theorem dX2_goTo_67 : decode cX2_goTo 67 = .ok (.iload 6, 2) := by decide +kernel
theorem dX2_goTo_69 : decode cX2_goTo 69 = .ok (.iastore, 1) := by decide +kernel
theorem dX2_goTo_70 : decode cX2_goTo 70 = .ok (.iload_n 3, 1) := by decide +kernel
theorem dX2_goTo_71 : decode cX2_goTo 71 = .ok (.iconst 1, 1) := by decide +kernel
theorem dX2_goTo_72 : decode cX2_goTo 72 = .ok (.iload 6, 2) := by decide +kernel
theorem dX2_goTo_74 : decode cX2_goTo 74 = .ok (.ishl, 1) := by decide +kernel
theorem dX2_goTo_75 : decode cX2_goTo 75 = .ok (.ior, 1) := by decide +kernel
theorem dX2_goTo_76 : decode cX2_goTo 76 = .ok (.istore_n 3, 1) := by decide +kernel
theorem dX2_goTo_77 : decode cX2_goTo 77 = .ok (.goto 14, 3) := by decide +kernel
theorem dX2_goTo_80 : decode cX2_goTo 80 = .ok (.iload_n 2, 1) := by decide +kernel
theorem dX2_goTo_81 : decode cX2_goTo 81 = .ok (.iload 5, 2) := by decide +kernel
theorem dX2_goTo_83 : decode cX2_goTo 83 = .ok (.isub, 1) := by decide +kernel
theorem dX2_goTo_84 : decode cX2_goTo 84 = .ok (.istore_n 2, 1) := by decide +kernel
theorem dX2_goTo_85 : decode cX2_goTo 85 = .ok (.iinc 6 1, 3) := by decide +kernel
theorem dX2_goTo_88 : decode cX2_goTo 88 = .ok (.goto (-54), 3) := by decide +kernel
theorem dX2_goTo_91 : decode cX2_goTo 91 = .ok (.iinc 4 1, 3) := by decide +kernel
theorem dX2_goTo_94 : decode cX2_goTo 94 = .ok (.goto (-87), 3) := by decide +kernel
theorem dX2_goTo_97 : decode cX2_goTo 97 = .ok (.aload_n 0, 1) := by decide +kernel
theorem dX2_goTo_98 : decode cX2_goTo 98 = .ok (.invokevirtual 86, 3) := by decide +kernel
theorem dX2_goTo_101 : decode cX2_goTo 101 = .ok (.return_, 1) := by decide +kernel
theorem dX2_goOn_0 : decode cX2_goOn 0 = .ok (.aload_n 0, 1) := by decide +kernel
theorem dX2_goOn_1 : decode cX2_goOn 1 = .ok (.getfield 49, 3) := by decide +kernel
theorem dX2_goOn_4 : decode cX2_goOn 4 = .ok (.iconst 2, 1) := by decide +kernel
theorem dX2_goOn_5 : decode cX2_goOn 5 = .ok (.isub, 1) := by decide +kernel
theorem dX2_goOn_6 : decode cX2_goOn 6 = .ok (.istore_n 1, 1) := by decide +kernel
theorem dX2_goOn_7 : decode cX2_goOn 7 = .ok (.iload_n 1, 1) := by decide +kernel
theorem dX2_goOn_8 : decode cX2_goOn 8 = .ok (.ifCond .lt 26, 3) := by decide +kernel
theorem dX2_goOn_11 : decode cX2_goOn 11 = .ok (.aload_n 0, 1) := by decide +kernel
theorem dX2_goOn_12 : decode cX2_goOn 12 = .ok (.getfield 9, 3) := by decide +kernel
theorem dX2_goOn_15 : decode cX2_goOn 15 = .ok (.iload_n 1, 1) := by decide +kernel
theorem dX2_goOn_16 : decode cX2_goOn 16 = .ok (.iaload, 1) := by decide +kernel
theorem dX2_goOn_17 : decode cX2_goOn 17 = .ok (.aload_n 0, 1) := by decide +kernel
theorem dX2_goOn_18 : decode cX2_goOn 18 = .ok (.getfield 9, 3) := by decide +kernel
theorem dX2_goOn_21 : decode cX2_goOn 21 = .ok (.iload_n 1, 1) := by decide +kernel
theorem dX2_goOn_22 : decode cX2_goOn 22 = .ok (.iconst 1, 1) := by decide +kernel
theorem dX2_goOn_23 : decode cX2_goOn 23 = .ok (.iadd, 1) := by decide +kernel
theorem dX2_goOn_24 : decode cX2_goOn 24 = .ok (.iaload, 1) := by decide +kernel
theorem dX2_goOn_25 : decode cX2_goOn 25 = .ok (.if_icmp .le 9, 3) := by decide +kernel
theorem dX2_goOn_28 : decode cX2_goOn 28 = .ok (.iinc 1 (-1), 3) := by decide +kernel
theorem dX2_goOn_31 : decode cX2_goOn 31 = .ok (.goto (-24), 3) := by decide +kernel
theorem dX2_goOn_34 : decode cX2_goOn 34 = .ok (.iload_n 1, 1) := by decide +kernel
theorem dX2_goOn_35 : decode cX2_goOn 35 = .ok (.ifCond .ge 4, 3) := by decide +kernel
theorem dX2_goOn_38 : decode cX2_goOn 38 = .ok (.return_, 1) := by decide +kernel
theorem dX2_goOn_39 : decode cX2_goOn 39 = .ok (.aload_n 0, 1) := by decide +kernel
theorem dX2_goOn_40 : decode cX2_goOn 40 = .ok (.getfield 49, 3) := by decide +kernel
theorem dX2_goOn_43 : decode cX2_goOn 43 = .ok (.iconst 1, 1) := by decide +kernel
theorem dX2_goOn_44 : decode cX2_goOn 44 = .ok (.isub, 1) := by decide +kernel
theorem dX2_goOn_45 : decode cX2_goOn 45 = .ok (.istore_n 2, 1) := by decide +kernel
theorem dX2_goOn_46 : decode cX2_goOn 46 = .ok (.iload_n 2, 1) := by decide +kernel
theorem dX2_goOn_47 : decode cX2_goOn 47 = .ok (.iload_n 1, 1) := by decide +kernel
theorem dX2_goOn_48 : decode cX2_goOn 48 = .ok (.if_icmp .le 24, 3) := by decide +kernel
theorem dX2_goOn_51 : decode cX2_goOn 51 = .ok (.aload_n 0, 1) := by decide +kernel
theorem dX2_goOn_52 : decode cX2_goOn 52 = .ok (.getfield 9, 3) := by decide +kernel
theorem dX2_goOn_55 : decode cX2_goOn 55 = .ok (.iload_n 2, 1) := by decide +kernel
theorem dX2_goOn_56 : decode cX2_goOn 56 = .ok (.iaload, 1) := by decide +kernel
theorem dX2_goOn_57 : decode cX2_goOn 57 = .ok (.aload_n 0, 1) := by decide +kernel
theorem dX2_goOn_58 : decode cX2_goOn 58 = .ok (.getfield 9, 3) := by decide +kernel
theorem dX2_goOn_61 : decode cX2_goOn 61 = .ok (.iload_n 1, 1) := by decide +kernel
theorem dX2_goOn_62 : decode cX2_goOn 62 = .ok (.iaload, 1) := by decide +kernel
theorem dX2_goOn_63 : decode cX2_goOn 63 = .ok (.if_icmp .ge 9, 3) := by decide +kernel
theorem dX2_goOn_66 : decode cX2_goOn 66 = .ok (.iinc 2 (-1), 3) := by decide +kernel
theorem dX2_goOn_69 : decode cX2_goOn 69 = .ok (.goto (-23), 3) := by decide +kernel
theorem dX2_goOn_72 : decode cX2_goOn 72 = .ok (.aload_n 0, 1) := by decide +kernel
theorem dX2_goOn_73 : decode cX2_goOn 73 = .ok (.iload_n 1, 1) := by decide +kernel
theorem dX2_goOn_74 : decode cX2_goOn 74 = .ok (.iload_n 2, 1) := by decide +kernel
theorem dX2_goOn_75 : decode cX2_goOn 75 = .ok (.invokevirtual 89, 3) := by decide +kernel
theorem dX2_goOn_78 : decode cX2_goOn 78 = .ok (.iload_n 1, 1) := by decide +kernel
theorem dX2_goOn_79 : decode cX2_goOn 79 = .ok (.iconst 1, 1) := by decide +kernel
theorem dX2_goOn_80 : decode cX2_goOn 80 = .ok (.iadd, 1) := by decide +kernel
theorem dX2_goOn_81 : decode cX2_goOn 81 = .ok (.istore_n 3, 1) := by decide +kernel
theorem dX2_goOn_82 : decode cX2_goOn 82 = .ok (.aload_n 0, 1) := by decide +kernel
theorem dX2_goOn_83 : decode cX2_goOn 83 = .ok (.getfield 49, 3) := by decide +kernel
theorem dX2_goOn_86 : decode cX2_goOn 86 = .ok (.iconst 1, 1) := by decide +kernel
theorem dX2_goOn_87 : decode cX2_goOn 87 = .ok (.isub, 1) := by decide +kernel
theorem dX2_goOn_88 : decode cX2_goOn 88 = .ok (.istore 4, 2) := by decide +kernel
theorem dX2_goOn_90 : decode cX2_goOn 90 = .ok (.iload_n 3, 1) := by decide +kernel
theorem dX2_goOn_91 : decode cX2_goOn 91 = .ok (.iload 4, 2) := by decide +kernel
theorem dX2_goOn_93 : decode cX2_goOn 93 = .ok (.if_icmp .ge 19, 3) := by decide +kernel
theorem dX2_goOn_96 : decode cX2_goOn 96 = .ok (.aload_n 0, 1) := by decide +kernel
theorem dX2_goOn_97 : decode cX2_goOn 97 = .ok (.iload_n 3, 1) := by decide +kernel
theorem dX2_goOn_98 : decode cX2_goOn 98 = .ok (.iload 4, 2) := by decide +kernel
theorem dX2_goOn_100 : decode cX2_goOn 100 = .ok (.invokevirtual 89, 3) := by decide +kernel
theorem dX2_goOn_103 : decode cX2_goOn 103 = .ok (.iinc 3 1, 3) := by decide +kernel
theorem dX2_goOn_106 : decode cX2_goOn 106 = .ok (.iinc 4 (-1), 3) := by decide +kernel
theorem dX2_goOn_109 : decode cX2_goOn 109 = .ok (.goto (-19), 3) := by decide +kernel
theorem dX2_goOn_112 : decode cX2_goOn 112 = .ok (.aload_n 0, 1) := by decide +kernel
theorem dX2_goOn_113 : decode cX2_goOn 113 = .ok (.invokevirtual 86, 3) := by decide +kernel
theorem dX2_goOn_116 : decode cX2_goOn 116 = .ok (.return_, 1) := by decide +kernel
theorem dX2_swap_0 : decode cX2_swap 0 = .ok (.aload_n 0, 1) := by decide +kernel
theorem dX2_swap_1 : decode cX2_swap 1 = .ok (.getfield 9, 3) := by decide +kernel
theorem dX2_swap_4 : decode cX2_swap 4 = .ok (.iload_n 1, 1) := by decide +kernel
theorem dX2_swap_5 : decode cX2_swap 5 = .ok (.iaload, 1) := by decide +kernel
theorem dX2_swap_6 : decode cX2_swap 6 = .ok (.istore_n 3, 1) := by decide +kernel
theorem dX2_swap_7 : decode cX2_swap 7 = .ok (.aload_n 0, 1) := by decide +kernel
theorem dX2_swap_8 : decode cX2_swap 8 = .ok (.getfield 9, 3) := by decide +kernel
theorem dX2_swap_11 : decode cX2_swap 11 = .ok (.iload_n 1, 1) := by decide +kernel
theorem dX2_swap_12 : decode cX2_swap 12 = .ok (.aload_n 0, 1) := by decide +kernel
theorem dX2_swap_13 : decode cX2_swap 13 = .ok (.getfield 9, 3) := by decide +kernel
theorem dX2_swap_16 : decode cX2_swap 16 = .ok (.iload_n 2, 1) := by decide +kernel
theorem dX2_swap_17 : decode cX2_swap 17 = .ok (.iaload, 1) := by decide +kernel
theorem dX2_swap_18 : decode cX2_swap 18 = .ok (.iastore, 1) := by decide +kernel
theorem dX2_swap_19 : decode cX2_swap 19 = .ok (.aload_n 0, 1) := by decide +kernel
theorem dX2_swap_20 : decode cX2_swap 20 = .ok (.getfield 9, 3) := by decide +kernel
theorem dX2_swap_23 : decode cX2_swap 23 = .ok (.iload_n 2, 1) := by decide +kernel
theorem dX2_swap_24 : decode cX2_swap 24 = .ok (.iload_n 3, 1) := by decide +kernel
theorem dX2_swap_25 : decode cX2_swap 25 = .ok (.iastore, 1) := by decide +kernel
theorem dX2_swap_26 : decode cX2_swap 26 = .ok (.return_, 1) := by decide +kernel
theorem dX2_placeDays_0 : decode cX2_placeDays 0 = .ok (.iconst 0, 1) := by decide +kernel
theorem dX2_placeDays_1 : decode cX2_placeDays 1 = .ok (.istore_n 1, 1) := by decide +kernel
theorem dX2_placeDays_2 : decode cX2_placeDays 2 = .ok (.iload_n 1, 1) := by decide +kernel
theorem dX2_placeDays_3 : decode cX2_placeDays 3 = .ok (.aload_n 0, 1) := by decide +kernel
theorem dX2_placeDays_4 : decode cX2_placeDays 4 = .ok (.getfield 49, 3) := by decide +kernel
theorem dX2_placeDays_7 : decode cX2_placeDays 7 = .ok (.if_icmp .ge 21, 3) := by decide +kernel
theorem dX2_placeDays_10 : decode cX2_placeDays 10 = .ok (.aload_n 0, 1) := by decide +kernel
theorem dX2_placeDays_11 : decode cX2_placeDays 11 = .ok (.getfield 15, 3) := by decide +kernel
theorem dX2_placeDays_14 : decode cX2_placeDays 14 = .ok (.aload_n 0, 1) := by decide +kernel
theorem dX2_placeDays_15 : decode cX2_placeDays 15 = .ok (.getfield 9, 3) := by decide +kernel
theorem dX2_placeDays_18 : decode cX2_placeDays 18 = .ok (.iload_n 1, 1) := by decide +kernel
theorem dX2_placeDays_19 : decode cX2_placeDays 19 = .ok (.iaload, 1) := by decide +kernel
theorem dX2_placeDays_20 : decode cX2_placeDays 20 = .ok (.iload_n 1, 1) := by decide +kernel
theorem dX2_placeDays_21 : decode cX2_placeDays 21 = .ok (.iastore, 1) := by decide +kernel
theorem dX2_placeDays_22 : decode cX2_placeDays 22 = .ok (.iinc 1 1, 3) := by decide +kernel
theorem dX2_placeDays_25 : decode cX2_placeDays 25 = .ok (.goto (-23), 3) := by decide +kernel
theorem dX2_placeDays_28 : decode cX2_placeDays 28 = .ok (.return_, 1) := by decide +kernel
theorem dX2_liveThrough_0 : decode cX2_liveThrough 0 = .ok (.iconst 0, 1) := by decide +kernel
theorem dX2_liveThrough_1 : decode cX2_liveThrough 1 = .ok (.istore_n 1, 1) := by decide +kernel
theorem dX2_liveThrough_2 : decode cX2_liveThrough 2 = .ok (.iconst 0, 1) := by decide +kernel
theorem dX2_liveThrough_3 : decode cX2_liveThrough 3 = .ok (.istore_n 2, 1) := by decide +kernel
theorem dX2_liveThrough_4 : decode cX2_liveThrough 4 = .ok (.iload_n 2, 1) := by decide +kernel
theorem dX2_liveThrough_5 : decode cX2_liveThrough 5 = .ok (.aload_n 0, 1) := by decide +kernel
theorem dX2_liveThrough_6 : decode cX2_liveThrough 6 = .ok (.getfield 49, 3) := by decide +kernel
theorem dX2_liveThrough_9 : decode cX2_liveThrough 9 = .ok (.if_icmp .ge 32, 3) := by decide +kernel
theorem dX2_liveThrough_12 : decode cX2_liveThrough 12 = .ok (.aload_n 0, 1) := by decide +kernel
theorem dX2_liveThrough_13 : decode cX2_liveThrough 13 = .ok (.getfield 9, 3) := by decide +kernel
theorem dX2_liveThrough_16 : decode cX2_liveThrough 16 = .ok (.iload_n 2, 1) := by decide +kernel
theorem dX2_liveThrough_17 : decode cX2_liveThrough 17 = .ok (.iaload, 1) := by decide +kernel
theorem dX2_liveThrough_18 : decode cX2_liveThrough 18 = .ok (.istore_n 3, 1) := by decide +kernel
theorem dX2_liveThrough_19 : decode cX2_liveThrough 19 = .ok (.aload_n 0, 1) := by decide +kernel
theorem dX2_liveThrough_20 : decode cX2_liveThrough 20 = .ok (.getfield 34, 3) := by decide +kernel
theorem dX2_liveThrough_23 : decode cX2_liveThrough 23 = .ok (.iload_n 3, 1) := by decide +kernel
theorem dX2_liveThrough_24 : decode cX2_liveThrough 24 = .ok (.iload_n 1, 1) := by decide +kernel
theorem dX2_liveThrough_25 : decode cX2_liveThrough 25 = .ok (.iastore, 1) := by decide +kernel
theorem dX2_liveThrough_26 : decode cX2_liveThrough 26 = .ok (.iload_n 1, 1) := by decide +kernel
theorem dX2_liveThrough_27 : decode cX2_liveThrough 27 = .ok (.aload_n 0, 1) := by decide +kernel
theorem dX2_liveThrough_28 : decode cX2_liveThrough 28 = .ok (.getfield 25, 3) := by decide +kernel
theorem dX2_liveThrough_31 : decode cX2_liveThrough 31 = .ok (.iload_n 3, 1) := by decide +kernel
theorem dX2_liveThrough_32 : decode cX2_liveThrough 32 = .ok (.iaload, 1) := by decide +kernel
theorem dX2_liveThrough_33 : decode cX2_liveThrough 33 = .ok (.ior, 1) := by decide +kernel
theorem dX2_liveThrough_34 : decode cX2_liveThrough 34 = .ok (.istore_n 1, 1) := by decide +kernel
theorem dX2_liveThrough_35 : decode cX2_liveThrough 35 = .ok (.iinc 2 1, 3) := by decide +kernel
theorem dX2_liveThrough_38 : decode cX2_liveThrough 38 = .ok (.goto (-34), 3) := by decide +kernel
theorem dX2_liveThrough_41 : decode cX2_liveThrough 41 = .ok (.aload_n 0, 1) := by decide +kernel
theorem dX2_liveThrough_42 : decode cX2_liveThrough 42 = .ok (.aload_n 0, 1) := by decide +kernel
theorem dX2_liveThrough_43 : decode cX2_liveThrough 43 = .ok (.getfield 34, 3) := by decide +kernel
theorem dX2_liveThrough_46 : decode cX2_liveThrough 46 = .ok (.invokevirtual 93, 3) := by decide +kernel
theorem dX2_liveThrough_49 : decode cX2_liveThrough 49 = .ok (.return_, 1) := by decide +kernel
theorem dX2_readByDate_0 : decode cX2_readByDate 0 = .ok (.iconst 0, 1) := by decide +kernel
theorem dX2_readByDate_1 : decode cX2_readByDate 1 = .ok (.istore_n 2, 1) := by decide +kernel
theorem dX2_readByDate_2 : decode cX2_readByDate 2 = .ok (.iconst 0, 1) := by decide +kernel
theorem dX2_readByDate_3 : decode cX2_readByDate 3 = .ok (.istore_n 3, 1) := by decide +kernel
theorem dX2_readByDate_4 : decode cX2_readByDate 4 = .ok (.iload_n 3, 1) := by decide +kernel
theorem dX2_readByDate_5 : decode cX2_readByDate 5 = .ok (.aload_n 0, 1) := by decide +kernel
theorem dX2_readByDate_6 : decode cX2_readByDate 6 = .ok (.getfield 49, 3) := by decide +kernel
theorem dX2_readByDate_9 : decode cX2_readByDate 9 = .ok (.if_icmp .ge 70, 3) := by decide +kernel
theorem dX2_readByDate_12 : decode cX2_readByDate 12 = .ok (.aload_n 0, 1) := by decide +kernel
theorem dX2_readByDate_13 : decode cX2_readByDate 13 = .ok (.getfield 37, 3) := by decide +kernel
theorem dX2_readByDate_16 : decode cX2_readByDate 16 = .ok (.iload_n 3, 1) := by decide +kernel
theorem dX2_readByDate_17 : decode cX2_readByDate 17 = .ok (.aload_n 0, 1) := by decide +kernel
theorem dX2_readByDate_18 : decode cX2_readByDate 18 = .ok (.getfield 18, 3) := by decide +kernel
theorem dX2_readByDate_21 : decode cX2_readByDate 21 = .ok (.iload_n 3, 1) := by decide +kernel
theorem dX2_readByDate_22 : decode cX2_readByDate 22 = .ok (.baload, 1) := by decide +kernel
theorem dX2_readByDate_23 : decode cX2_readByDate 23 = .ok (.ifCond .eq 7, 3) := by decide +kernel
theorem dX2_readByDate_26 : decode cX2_readByDate 26 = .ok (.iload_n 2, 1) := by decide +kernel
theorem dX2_readByDate_27 : decode cX2_readByDate 27 = .ok (.goto 4, 3) := by decide +kernel
theorem dX2_readByDate_30 : decode cX2_readByDate 30 = .ok (.iconst 0, 1) := by decide +kernel
theorem dX2_readByDate_31 : decode cX2_readByDate 31 = .ok (.iastore, 1) := by decide +kernel
theorem dX2_readByDate_32 : decode cX2_readByDate 32 = .ok (.aload_n 0, 1) := by decide +kernel
theorem dX2_readByDate_33 : decode cX2_readByDate 33 = .ok (.getfield 40, 3) := by decide +kernel
theorem dX2_readByDate_36 : decode cX2_readByDate 36 = .ok (.iload_n 3, 1) := by decide +kernel
theorem dX2_readByDate_37 : decode cX2_readByDate 37 = .ok (.aload_n 1, 1) := by decide +kernel
theorem dX2_readByDate_38 : decode cX2_readByDate 38 = .ok (.iload_n 3, 1) := by decide +kernel
theorem dX2_readByDate_39 : decode cX2_readByDate 39 = .ok (.iaload, 1) := by decide +kernel
theorem dX2_readByDate_40 : decode cX2_readByDate 40 = .ok (.aload_n 0, 1) := by decide +kernel
theorem dX2_readByDate_41 : decode cX2_readByDate 41 = .ok (.getfield 37, 3) := by decide +kernel
theorem dX2_readByDate_44 : decode cX2_readByDate 44 = .ok (.iload_n 3, 1) := by decide +kernel
theorem dX2_readByDate_45 : decode cX2_readByDate 45 = .ok (.iaload, 1) := by decide +kernel
theorem dX2_readByDate_46 : decode cX2_readByDate 46 = .ok (.ior, 1) := by decide +kernel
theorem dX2_readByDate_47 : decode cX2_readByDate 47 = .ok (.iastore, 1) := by decide +kernel
theorem dX2_readByDate_48 : decode cX2_readByDate 48 = .ok (.aload_n 0, 1) := by decide +kernel
theorem dX2_readByDate_49 : decode cX2_readByDate 49 = .ok (.getfield 22, 3) := by decide +kernel
theorem dX2_readByDate_52 : decode cX2_readByDate 52 = .ok (.iload_n 3, 1) := by decide +kernel
theorem dX2_readByDate_53 : decode cX2_readByDate 53 = .ok (.baload, 1) := by decide +kernel
theorem dX2_readByDate_54 : decode cX2_readByDate 54 = .ok (.ifCond .eq 19, 3) := by decide +kernel
theorem dX2_readByDate_57 : decode cX2_readByDate 57 = .ok (.iload_n 2, 1) := by decide +kernel
theorem dX2_readByDate_58 : decode cX2_readByDate 58 = .ok (.aload_n 0, 1) := by decide +kernel
theorem dX2_readByDate_59 : decode cX2_readByDate 59 = .ok (.getfield 31, 3) := by decide +kernel
theorem dX2_readByDate_62 : decode cX2_readByDate 62 = .ok (.iload_n 3, 1) := by decide +kernel
theorem dX2_readByDate_63 : decode cX2_readByDate 63 = .ok (.iaload, 1) := by decide +kernel
theorem dX2_readByDate_64 : decode cX2_readByDate 64 = .ok (.aload_n 0, 1) := by decide +kernel
theorem dX2_readByDate_65 : decode cX2_readByDate 65 = .ok (.getfield 40, 3) := by decide +kernel
theorem dX2_readByDate_68 : decode cX2_readByDate 68 = .ok (.iload_n 3, 1) := by decide +kernel
theorem dX2_readByDate_69 : decode cX2_readByDate 69 = .ok (.iaload, 1) := by decide +kernel
theorem dX2_readByDate_70 : decode cX2_readByDate 70 = .ok (.iand, 1) := by decide +kernel
theorem dX2_readByDate_71 : decode cX2_readByDate 71 = .ok (.ior, 1) := by decide +kernel
theorem dX2_readByDate_72 : decode cX2_readByDate 72 = .ok (.istore_n 2, 1) := by decide +kernel
theorem dX2_readByDate_73 : decode cX2_readByDate 73 = .ok (.iinc 3 1, 3) := by decide +kernel
theorem dX2_readByDate_76 : decode cX2_readByDate 76 = .ok (.goto (-72), 3) := by decide +kernel
theorem dX2_readByDate_79 : decode cX2_readByDate 79 = .ok (.return_, 1) := by decide +kernel
theorem dX2_lacking_0 : decode cX2_lacking 0 = .ok (.aload_n 0, 1) := by decide +kernel
theorem dX2_lacking_1 : decode cX2_lacking 1 = .ok (.getfield 28, 3) := by decide +kernel
theorem dX2_lacking_4 : decode cX2_lacking 4 = .ok (.iload_n 1, 1) := by decide +kernel
theorem dX2_lacking_5 : decode cX2_lacking 5 = .ok (.iaload, 1) := by decide +kernel
theorem dX2_lacking_6 : decode cX2_lacking 6 = .ok (.aload_n 0, 1) := by decide +kernel
theorem dX2_lacking_7 : decode cX2_lacking 7 = .ok (.getfield 40, 3) := by decide +kernel
theorem dX2_lacking_10 : decode cX2_lacking 10 = .ok (.iload_n 1, 1) := by decide +kernel
theorem dX2_lacking_11 : decode cX2_lacking 11 = .ok (.iaload, 1) := by decide +kernel
theorem dX2_lacking_12 : decode cX2_lacking 12 = .ok (.iconst (-1), 1) := by decide +kernel
theorem dX2_lacking_13 : decode cX2_lacking 13 = .ok (.ixor, 1) := by decide +kernel
theorem dX2_lacking_14 : decode cX2_lacking 14 = .ok (.iand, 1) := by decide +kernel
theorem dX2_lacking_15 : decode cX2_lacking 15 = .ok (.ireturn, 1) := by decide +kernel
theorem dX2_firstFailing_0 : decode cX2_firstFailing 0 = .ok (.iconst 0, 1) := by decide +kernel
theorem dX2_firstFailing_1 : decode cX2_firstFailing 1 = .ok (.istore_n 1, 1) := by decide +kernel
theorem dX2_firstFailing_2 : decode cX2_firstFailing 2 = .ok (.iload_n 1, 1) := by decide +kernel
theorem dX2_firstFailing_3 : decode cX2_firstFailing 3 = .ok (.aload_n 0, 1) := by decide +kernel
theorem dX2_firstFailing_4 : decode cX2_firstFailing 4 = .ok (.getfield 49, 3) := by decide +kernel
theorem dX2_firstFailing_7 : decode cX2_firstFailing 7 = .ok (.if_icmp .ge 29, 3) := by decide +kernel
theorem dX2_firstFailing_10 : decode cX2_firstFailing 10 = .ok (.aload_n 0, 1) := by decide +kernel
theorem dX2_firstFailing_11 : decode cX2_firstFailing 11 = .ok (.aload_n 0, 1) := by decide +kernel
theorem dX2_firstFailing_12 : decode cX2_firstFailing 12 = .ok (.getfield 9, 3) := by decide +kernel
theorem dX2_firstFailing_15 : decode cX2_firstFailing 15 = .ok (.iload_n 1, 1) := by decide +kernel
theorem dX2_firstFailing_16 : decode cX2_firstFailing 16 = .ok (.iaload, 1) := by decide +kernel
theorem dX2_firstFailing_17 : decode cX2_firstFailing 17 = .ok (.invokevirtual 97, 3) := by decide +kernel
theorem dX2_firstFailing_20 : decode cX2_firstFailing 20 = .ok (.ifCond .eq 10, 3) := by decide +kernel
theorem dX2_firstFailing_23 : decode cX2_firstFailing 23 = .ok (.aload_n 0, 1) := by decide +kernel
theorem dX2_firstFailing_24 : decode cX2_firstFailing 24 = .ok (.getfield 9, 3) := by decide +kernel
theorem dX2_firstFailing_27 : decode cX2_firstFailing 27 = .ok (.iload_n 1, 1) := by decide +kernel
theorem dX2_firstFailing_28 : decode cX2_firstFailing 28 = .ok (.iaload, 1) := by decide +kernel
theorem dX2_firstFailing_29 : decode cX2_firstFailing 29 = .ok (.ireturn, 1) := by decide +kernel
theorem dX2_firstFailing_30 : decode cX2_firstFailing 30 = .ok (.iinc 1 1, 3) := by decide +kernel
theorem dX2_firstFailing_33 : decode cX2_firstFailing 33 = .ok (.goto (-31), 3) := by decide +kernel
theorem dX2_firstFailing_36 : decode cX2_firstFailing 36 = .ok (.iconst (-1), 1) := by decide +kernel
theorem dX2_firstFailing_37 : decode cX2_firstFailing 37 = .ok (.ireturn, 1) := by decide +kernel
theorem dX2_wellAmong_0 : decode cX2_wellAmong 0 = .ok (.iconst 0, 1) := by decide +kernel
theorem dX2_wellAmong_1 : decode cX2_wellAmong 1 = .ok (.istore_n 2, 1) := by decide +kernel
theorem dX2_wellAmong_2 : decode cX2_wellAmong 2 = .ok (.iconst 0, 1) := by decide +kernel
theorem dX2_wellAmong_3 : decode cX2_wellAmong 3 = .ok (.istore_n 3, 1) := by decide +kernel
theorem dX2_wellAmong_4 : decode cX2_wellAmong 4 = .ok (.iload_n 3, 1) := by decide +kernel
theorem dX2_wellAmong_5 : decode cX2_wellAmong 5 = .ok (.iload_n 1, 1) := by decide +kernel
theorem dX2_wellAmong_6 : decode cX2_wellAmong 6 = .ok (.if_icmp .ge 25, 3) := by decide +kernel
theorem dX2_wellAmong_9 : decode cX2_wellAmong 9 = .ok (.aload_n 0, 1) := by decide +kernel
theorem dX2_wellAmong_10 : decode cX2_wellAmong 10 = .ok (.aload_n 0, 1) := by decide +kernel
theorem dX2_wellAmong_11 : decode cX2_wellAmong 11 = .ok (.getfield 9, 3) := by decide +kernel
theorem dX2_wellAmong_14 : decode cX2_wellAmong 14 = .ok (.iload_n 3, 1) := by decide +kernel
theorem dX2_wellAmong_15 : decode cX2_wellAmong 15 = .ok (.iaload, 1) := by decide +kernel
theorem dX2_wellAmong_16 : decode cX2_wellAmong 16 = .ok (.invokevirtual 97, 3) := by decide +kernel
theorem dX2_wellAmong_19 : decode cX2_wellAmong 19 = .ok (.ifCond .ne 6, 3) := by decide +kernel
theorem dX2_wellAmong_22 : decode cX2_wellAmong 22 = .ok (.iinc 2 1, 3) := by decide +kernel
theorem dX2_wellAmong_25 : decode cX2_wellAmong 25 = .ok (.iinc 3 1, 3) := by decide +kernel
theorem dX2_wellAmong_28 : decode cX2_wellAmong 28 = .ok (.goto (-24), 3) := by decide +kernel
theorem dX2_wellAmong_31 : decode cX2_wellAmong 31 = .ok (.iload_n 2, 1) := by decide +kernel
theorem dX2_wellAmong_32 : decode cX2_wellAmong 32 = .ok (.ireturn, 1) := by decide +kernel
theorem dX2_learntAmong_0 : decode cX2_learntAmong 0 = .ok (.iconst 0, 1) := by decide +kernel
theorem dX2_learntAmong_1 : decode cX2_learntAmong 1 = .ok (.istore_n 2, 1) := by decide +kernel
theorem dX2_learntAmong_2 : decode cX2_learntAmong 2 = .ok (.iconst 0, 1) := by decide +kernel
theorem dX2_learntAmong_3 : decode cX2_learntAmong 3 = .ok (.istore_n 3, 1) := by decide +kernel
theorem dX2_learntAmong_4 : decode cX2_learntAmong 4 = .ok (.iload_n 3, 1) := by decide +kernel
theorem dX2_learntAmong_5 : decode cX2_learntAmong 5 = .ok (.iload_n 1, 1) := by decide +kernel
theorem dX2_learntAmong_6 : decode cX2_learntAmong 6 = .ok (.if_icmp .ge 23, 3) := by decide +kernel
theorem dX2_learntAmong_9 : decode cX2_learntAmong 9 = .ok (.iload_n 2, 1) := by decide +kernel
theorem dX2_learntAmong_10 : decode cX2_learntAmong 10 = .ok (.aload_n 0, 1) := by decide +kernel
theorem dX2_learntAmong_11 : decode cX2_learntAmong 11 = .ok (.getfield 25, 3) := by decide +kernel
theorem dX2_learntAmong_14 : decode cX2_learntAmong 14 = .ok (.aload_n 0, 1) := by decide +kernel
theorem dX2_learntAmong_15 : decode cX2_learntAmong 15 = .ok (.getfield 9, 3) := by decide +kernel
theorem dX2_learntAmong_18 : decode cX2_learntAmong 18 = .ok (.iload_n 3, 1) := by decide +kernel
theorem dX2_learntAmong_19 : decode cX2_learntAmong 19 = .ok (.iaload, 1) := by decide +kernel
theorem dX2_learntAmong_20 : decode cX2_learntAmong 20 = .ok (.iaload, 1) := by decide +kernel
theorem dX2_learntAmong_21 : decode cX2_learntAmong 21 = .ok (.ior, 1) := by decide +kernel
theorem dX2_learntAmong_22 : decode cX2_learntAmong 22 = .ok (.istore_n 2, 1) := by decide +kernel
theorem dX2_learntAmong_23 : decode cX2_learntAmong 23 = .ok (.iinc 3 1, 3) := by decide +kernel
theorem dX2_learntAmong_26 : decode cX2_learntAmong 26 = .ok (.goto (-22), 3) := by decide +kernel
theorem dX2_learntAmong_29 : decode cX2_learntAmong 29 = .ok (.iload_n 2, 1) := by decide +kernel
theorem dX2_learntAmong_30 : decode cX2_learntAmong 30 = .ok (.ireturn, 1) := by decide +kernel
theorem dX2_daysAheadOf_0 : decode cX2_daysAheadOf 0 = .ok (.iconst 0, 1) := by decide +kernel
theorem dX2_daysAheadOf_1 : decode cX2_daysAheadOf 1 = .ok (.istore_n 2, 1) := by decide +kernel
theorem dX2_daysAheadOf_2 : decode cX2_daysAheadOf 2 = .ok (.iconst 0, 1) := by decide +kernel
theorem dX2_daysAheadOf_3 : decode cX2_daysAheadOf 3 = .ok (.istore_n 3, 1) := by decide +kernel
theorem dX2_daysAheadOf_4 : decode cX2_daysAheadOf 4 = .ok (.iload_n 3, 1) := by decide +kernel
theorem dX2_daysAheadOf_5 : decode cX2_daysAheadOf 5 = .ok (.aload_n 0, 1) := by decide +kernel
theorem dX2_daysAheadOf_6 : decode cX2_daysAheadOf 6 = .ok (.getfield 15, 3) := by decide +kernel
theorem dX2_daysAheadOf_9 : decode cX2_daysAheadOf 9 = .ok (.iload_n 1, 1) := by decide +kernel
theorem dX2_daysAheadOf_10 : decode cX2_daysAheadOf 10 = .ok (.iaload, 1) := by decide +kernel
theorem dX2_daysAheadOf_11 : decode cX2_daysAheadOf 11 = .ok (.if_icmp .ge 20, 3) := by decide +kernel
theorem dX2_daysAheadOf_14 : decode cX2_daysAheadOf 14 = .ok (.iload_n 2, 1) := by decide +kernel
theorem dX2_daysAheadOf_15 : decode cX2_daysAheadOf 15 = .ok (.iconst 1, 1) := by decide +kernel
theorem dX2_daysAheadOf_16 : decode cX2_daysAheadOf 16 = .ok (.aload_n 0, 1) := by decide +kernel
theorem dX2_daysAheadOf_17 : decode cX2_daysAheadOf 17 = .ok (.getfield 9, 3) := by decide +kernel
theorem dX2_daysAheadOf_20 : decode cX2_daysAheadOf 20 = .ok (.iload_n 3, 1) := by decide +kernel
theorem dX2_daysAheadOf_21 : decode cX2_daysAheadOf 21 = .ok (.iaload, 1) := by decide +kernel
theorem dX2_daysAheadOf_22 : decode cX2_daysAheadOf 22 = .ok (.ishl, 1) := by decide +kernel
theorem dX2_daysAheadOf_23 : decode cX2_daysAheadOf 23 = .ok (.ior, 1) := by decide +kernel
theorem dX2_daysAheadOf_24 : decode cX2_daysAheadOf 24 = .ok (.istore_n 2, 1) := by decide +kernel
theorem dX2_daysAheadOf_25 : decode cX2_daysAheadOf 25 = .ok (.iinc 3 1, 3) := by decide +kernel
theorem dX2_daysAheadOf_28 : decode cX2_daysAheadOf 28 = .ok (.goto (-24), 3) := by decide +kernel
theorem dX2_daysAheadOf_31 : decode cX2_daysAheadOf 31 = .ok (.iload_n 2, 1) := by decide +kernel
theorem dX2_daysAheadOf_32 : decode cX2_daysAheadOf 32 = .ok (.ireturn, 1) := by decide +kernel
theorem dX2_keepsTold_0 : decode cX2_keepsTold 0 = .ok (.iconst 0, 1) := by decide +kernel
theorem dX2_keepsTold_1 : decode cX2_keepsTold 1 = .ok (.istore_n 2, 1) := by decide +kernel
theorem dX2_keepsTold_2 : decode cX2_keepsTold 2 = .ok (.iload_n 2, 1) := by decide +kernel
theorem dX2_keepsTold_3 : decode cX2_keepsTold 3 = .ok (.aload_n 1, 1) := by decide +kernel
theorem dX2_keepsTold_4 : decode cX2_keepsTold 4 = .ok (.getfield 100, 3) := by decide +kernel
theorem dX2_keepsTold_7 : decode cX2_keepsTold 7 = .ok (.if_icmp .ge 36, 3) := by decide +kernel
theorem dX2_keepsTold_10 : decode cX2_keepsTold 10 = .ok (.aload_n 0, 1) := by decide +kernel
theorem dX2_keepsTold_11 : decode cX2_keepsTold 11 = .ok (.getfield 15, 3) := by decide +kernel
theorem dX2_keepsTold_14 : decode cX2_keepsTold 14 = .ok (.aload_n 1, 1) := by decide +kernel
theorem dX2_keepsTold_15 : decode cX2_keepsTold 15 = .ok (.getfield 103, 3) := by decide +kernel
theorem dX2_keepsTold_18 : decode cX2_keepsTold 18 = .ok (.iload_n 2, 1) := by decide +kernel
theorem dX2_keepsTold_19 : decode cX2_keepsTold 19 = .ok (.iaload, 1) := by decide +kernel
theorem dX2_keepsTold_20 : decode cX2_keepsTold 20 = .ok (.iaload, 1) := by decide +kernel
theorem dX2_keepsTold_21 : decode cX2_keepsTold 21 = .ok (.aload_n 0, 1) := by decide +kernel
theorem dX2_keepsTold_22 : decode cX2_keepsTold 22 = .ok (.getfield 15, 3) := by decide +kernel
theorem dX2_keepsTold_25 : decode cX2_keepsTold 25 = .ok (.aload_n 1, 1) := by decide +kernel
theorem dX2_keepsTold_26 : decode cX2_keepsTold 26 = .ok (.getfield 106, 3) := by decide +kernel
theorem dX2_keepsTold_29 : decode cX2_keepsTold 29 = .ok (.iload_n 2, 1) := by decide +kernel
theorem dX2_keepsTold_30 : decode cX2_keepsTold 30 = .ok (.iaload, 1) := by decide +kernel
theorem dX2_keepsTold_31 : decode cX2_keepsTold 31 = .ok (.iaload, 1) := by decide +kernel
theorem dX2_keepsTold_32 : decode cX2_keepsTold 32 = .ok (.if_icmp .le 5, 3) := by decide +kernel
theorem dX2_keepsTold_35 : decode cX2_keepsTold 35 = .ok (.iconst 0, 1) := by decide +kernel
theorem dX2_keepsTold_36 : decode cX2_keepsTold 36 = .ok (.ireturn, 1) := by decide +kernel
theorem dX2_keepsTold_37 : decode cX2_keepsTold 37 = .ok (.iinc 2 1, 3) := by decide +kernel
theorem dX2_keepsTold_40 : decode cX2_keepsTold 40 = .ok (.goto (-38), 3) := by decide +kernel
theorem dX2_keepsTold_43 : decode cX2_keepsTold 43 = .ok (.iconst 0, 1) := by decide +kernel
theorem dX2_keepsTold_44 : decode cX2_keepsTold 44 = .ok (.istore_n 2, 1) := by decide +kernel
theorem dX2_keepsTold_45 : decode cX2_keepsTold 45 = .ok (.iload_n 2, 1) := by decide +kernel
theorem dX2_keepsTold_46 : decode cX2_keepsTold 46 = .ok (.aload_n 0, 1) := by decide +kernel
theorem dX2_keepsTold_47 : decode cX2_keepsTold 47 = .ok (.getfield 49, 3) := by decide +kernel
theorem dX2_keepsTold_50 : decode cX2_keepsTold 50 = .ok (.if_icmp .ge 36, 3) := by decide +kernel
theorem dX2_keepsTold_53 : decode cX2_keepsTold 53 = .ok (.aload_n 1, 1) := by decide +kernel
theorem dX2_keepsTold_54 : decode cX2_keepsTold 54 = .ok (.getfield 109, 3) := by decide +kernel
theorem dX2_keepsTold_57 : decode cX2_keepsTold 57 = .ok (.iload_n 2, 1) := by decide +kernel
theorem dX2_keepsTold_58 : decode cX2_keepsTold 58 = .ok (.iaload, 1) := by decide +kernel
theorem dX2_keepsTold_59 : decode cX2_keepsTold 59 = .ok (.iconst (-1), 1) := by decide +kernel
theorem dX2_keepsTold_60 : decode cX2_keepsTold 60 = .ok (.if_icmp .eq 20, 3) := by decide +kernel
theorem dX2_keepsTold_63 : decode cX2_keepsTold 63 = .ok (.aload_n 1, 1) := by decide +kernel
theorem dX2_keepsTold_64 : decode cX2_keepsTold 64 = .ok (.getfield 109, 3) := by decide +kernel
theorem dX2_keepsTold_67 : decode cX2_keepsTold 67 = .ok (.iload_n 2, 1) := by decide +kernel
theorem dX2_keepsTold_68 : decode cX2_keepsTold 68 = .ok (.iaload, 1) := by decide +kernel
theorem dX2_keepsTold_69 : decode cX2_keepsTold 69 = .ok (.aload_n 0, 1) := by decide +kernel
theorem dX2_keepsTold_70 : decode cX2_keepsTold 70 = .ok (.getfield 15, 3) := by decide +kernel
theorem dX2_keepsTold_73 : decode cX2_keepsTold 73 = .ok (.iload_n 2, 1) := by decide +kernel
theorem dX2_keepsTold_74 : decode cX2_keepsTold 74 = .ok (.iaload, 1) := by decide +kernel
theorem dX2_keepsTold_75 : decode cX2_keepsTold 75 = .ok (.if_icmp .eq 5, 3) := by decide +kernel
theorem dX2_keepsTold_78 : decode cX2_keepsTold 78 = .ok (.iconst 0, 1) := by decide +kernel
theorem dX2_keepsTold_79 : decode cX2_keepsTold 79 = .ok (.ireturn, 1) := by decide +kernel
theorem dX2_keepsTold_80 : decode cX2_keepsTold 80 = .ok (.iinc 2 1, 3) := by decide +kernel
theorem dX2_keepsTold_83 : decode cX2_keepsTold 83 = .ok (.goto (-38), 3) := by decide +kernel
theorem dX2_keepsTold_86 : decode cX2_keepsTold 86 = .ok (.iconst 1, 1) := by decide +kernel
theorem dX2_keepsTold_87 : decode cX2_keepsTold 87 = .ok (.ireturn, 1) := by decide +kernel
theorem dX2_fitsDiary_0 : decode cX2_fitsDiary 0 = .ok (.iconst 0, 1) := by decide +kernel
theorem dX2_fitsDiary_1 : decode cX2_fitsDiary 1 = .ok (.istore_n 2, 1) := by decide +kernel
theorem dX2_fitsDiary_2 : decode cX2_fitsDiary 2 = .ok (.iload_n 2, 1) := by decide +kernel
theorem dX2_fitsDiary_3 : decode cX2_fitsDiary 3 = .ok (.aload_n 0, 1) := by decide +kernel
theorem dX2_fitsDiary_4 : decode cX2_fitsDiary 4 = .ok (.getfield 49, 3) := by decide +kernel
theorem dX2_fitsDiary_7 : decode cX2_fitsDiary 7 = .ok (.if_icmp .ge 35, 3) := by decide +kernel
theorem dX2_fitsDiary_10 : decode cX2_fitsDiary 10 = .ok (.aload_n 1, 1) := by decide +kernel
theorem dX2_fitsDiary_11 : decode cX2_fitsDiary 11 = .ok (.iload_n 2, 1) := by decide +kernel
theorem dX2_fitsDiary_12 : decode cX2_fitsDiary 12 = .ok (.iaload, 1) := by decide +kernel
theorem dX2_fitsDiary_13 : decode cX2_fitsDiary 13 = .ok (.iconst (-1), 1) := by decide +kernel
theorem dX2_fitsDiary_14 : decode cX2_fitsDiary 14 = .ok (.if_icmp .eq 22, 3) := by decide +kernel
theorem dX2_fitsDiary_17 : decode cX2_fitsDiary 17 = .ok (.aload_n 1, 1) := by decide +kernel
theorem dX2_fitsDiary_18 : decode cX2_fitsDiary 18 = .ok (.iload_n 2, 1) := by decide +kernel
theorem dX2_fitsDiary_19 : decode cX2_fitsDiary 19 = .ok (.iaload, 1) := by decide +kernel
theorem dX2_fitsDiary_20 : decode cX2_fitsDiary 20 = .ok (.aload_n 0, 1) := by decide +kernel
theorem dX2_fitsDiary_21 : decode cX2_fitsDiary 21 = .ok (.getfield 40, 3) := by decide +kernel
theorem dX2_fitsDiary_24 : decode cX2_fitsDiary 24 = .ok (.aload_n 0, 1) := by decide +kernel
theorem dX2_fitsDiary_25 : decode cX2_fitsDiary 25 = .ok (.getfield 9, 3) := by decide +kernel
theorem dX2_fitsDiary_28 : decode cX2_fitsDiary 28 = .ok (.iload_n 2, 1) := by decide +kernel
theorem dX2_fitsDiary_29 : decode cX2_fitsDiary 29 = .ok (.iaload, 1) := by decide +kernel
theorem dX2_fitsDiary_30 : decode cX2_fitsDiary 30 = .ok (.iaload, 1) := by decide +kernel
theorem dX2_fitsDiary_31 : decode cX2_fitsDiary 31 = .ok (.if_icmp .eq 5, 3) := by decide +kernel
theorem dX2_fitsDiary_34 : decode cX2_fitsDiary 34 = .ok (.iconst 0, 1) := by decide +kernel
theorem dX2_fitsDiary_35 : decode cX2_fitsDiary 35 = .ok (.ireturn, 1) := by decide +kernel
theorem dX2_fitsDiary_36 : decode cX2_fitsDiary 36 = .ok (.iinc 2 1, 3) := by decide +kernel
theorem dX2_fitsDiary_39 : decode cX2_fitsDiary 39 = .ok (.goto (-37), 3) := by decide +kernel
theorem dX2_fitsDiary_42 : decode cX2_fitsDiary 42 = .ok (.iconst 1, 1) := by decide +kernel
theorem dX2_fitsDiary_43 : decode cX2_fitsDiary 43 = .ok (.ireturn, 1) := by decide +kernel
theorem dX3_init_0 : decode cX3_init 0 = .ok (.aload_n 0, 1) := by decide +kernel
theorem dX3_init_1 : decode cX3_init 1 = .ok (.invokespecial 1, 3) := by decide +kernel
theorem dX3_init_4 : decode cX3_init 4 = .ok (.return_, 1) := by decide +kernel
theorem dX3_canWrite_0 : decode cX3_canWrite 0 = .ok (.iconst 0, 1) := by decide +kernel
theorem dX3_canWrite_1 : decode cX3_canWrite 1 = .ok (.ireturn, 1) := by decide +kernel
theorem dX3_neededOf_0 : decode cX3_neededOf 0 = .ok (.iconst 0, 1) := by decide +kernel
theorem dX3_neededOf_1 : decode cX3_neededOf 1 = .ok (.ireturn, 1) := by decide +kernel
theorem dX4_init_0 : decode cX4_init 0 = .ok (.aload_n 0, 1) := by decide +kernel
theorem dX4_init_1 : decode cX4_init 1 = .ok (.invokespecial 1, 3) := by decide +kernel
theorem dX4_init_4 : decode cX4_init 4 = .ok (.return_, 1) := by decide +kernel
theorem dX4_learntOf_0 : decode cX4_learntOf 0 = .ok (.iconst 0, 1) := by decide +kernel
theorem dX4_learntOf_1 : decode cX4_learntOf 1 = .ok (.ireturn, 1) := by decide +kernel
theorem dX5_init_0 : decode cX5_init 0 = .ok (.aload_n 0, 1) := by decide +kernel
theorem dX5_init_1 : decode cX5_init 1 = .ok (.invokespecial 3, 3) := by decide +kernel
theorem dX5_init_4 : decode cX5_init 4 = .ok (.aload_n 0, 1) := by decide +kernel
theorem dX5_init_5 : decode cX5_init 5 = .ok (.bipush 7, 2) := by decide +kernel
theorem dX5_init_7 : decode cX5_init 7 = .ok (.newarray .int, 2) := by decide +kernel
theorem dX5_init_9 : decode cX5_init 9 = .ok (.putfield 9, 3) := by decide +kernel
theorem dX5_init_12 : decode cX5_init 12 = .ok (.aload_n 0, 1) := by decide +kernel
theorem dX5_init_13 : decode cX5_init 13 = .ok (.bipush 7, 2) := by decide +kernel
theorem dX5_init_15 : decode cX5_init 15 = .ok (.newarray .int, 2) := by decide +kernel
theorem dX5_init_17 : decode cX5_init 17 = .ok (.putfield 15, 3) := by decide +kernel
theorem dX5_init_20 : decode cX5_init 20 = .ok (.aload_n 0, 1) := by decide +kernel
theorem dX5_init_21 : decode cX5_init 21 = .ok (.bipush 7, 2) := by decide +kernel
theorem dX5_init_23 : decode cX5_init 23 = .ok (.newarray .int, 2) := by decide +kernel
theorem dX5_init_25 : decode cX5_init 25 = .ok (.putfield 18, 3) := by decide +kernel
theorem dX5_init_28 : decode cX5_init 28 = .ok (.aload_n 0, 1) := by decide +kernel
theorem dX5_init_29 : decode cX5_init 29 = .ok (.bipush 7, 2) := by decide +kernel
theorem dX5_init_31 : decode cX5_init 31 = .ok (.newarray .int, 2) := by decide +kernel
theorem dX5_init_33 : decode cX5_init 33 = .ok (.putfield 21, 3) := by decide +kernel
theorem dX5_init_36 : decode cX5_init 36 = .ok (.aload_n 0, 1) := by decide +kernel
theorem dX5_init_37 : decode cX5_init 37 = .ok (.bipush 7, 2) := by decide +kernel
theorem dX5_init_39 : decode cX5_init 39 = .ok (.newarray .int, 2) := by decide +kernel
theorem dX5_init_41 : decode cX5_init 41 = .ok (.putfield 24, 3) := by decide +kernel
theorem dX5_init_44 : decode cX5_init 44 = .ok (.aload_n 0, 1) := by decide +kernel
theorem dX5_init_45 : decode cX5_init 45 = .ok (.bipush 6, 2) := by decide +kernel
theorem dX5_init_47 : decode cX5_init 47 = .ok (.newarray .int, 2) := by decide +kernel
theorem dX5_init_49 : decode cX5_init 49 = .ok (.putfield 27, 3) := by decide +kernel
theorem dX5_init_52 : decode cX5_init 52 = .ok (.aload_n 0, 1) := by decide +kernel
theorem dX5_init_53 : decode cX5_init 53 = .ok (.bipush 6, 2) := by decide +kernel
theorem dX5_init_55 : decode cX5_init 55 = .ok (.newarray .int, 2) := by decide +kernel
theorem dX5_init_57 : decode cX5_init 57 = .ok (.putfield 30, 3) := by decide +kernel
theorem dX5_init_60 : decode cX5_init 60 = .ok (.aload_n 0, 1) := by decide +kernel
theorem dX5_init_61 : decode cX5_init 61 = .ok (.bipush 6, 2) := by decide +kernel
theorem dX5_init_63 : decode cX5_init 63 = .ok (.newarray .int, 2) := by decide +kernel
theorem dX5_init_65 : decode cX5_init 65 = .ok (.putfield 33, 3) := by decide +kernel
theorem dX5_init_68 : decode cX5_init 68 = .ok (.aload_n 0, 1) := by decide +kernel
theorem dX5_init_69 : decode cX5_init 69 = .ok (.bipush 6, 2) := by decide +kernel
theorem dX5_init_71 : decode cX5_init 71 = .ok (.newarray .int, 2) := by decide +kernel
theorem dX5_init_73 : decode cX5_init 73 = .ok (.putfield 36, 3) := by decide +kernel
theorem dX5_init_76 : decode cX5_init 76 = .ok (.aload_n 0, 1) := by decide +kernel
theorem dX5_init_77 : decode cX5_init 77 = .ok (.iconst 3, 1) := by decide +kernel
theorem dX5_init_78 : decode cX5_init 78 = .ok (.newarray .int, 2) := by decide +kernel
theorem dX5_init_80 : decode cX5_init 80 = .ok (.putfield 39, 3) := by decide +kernel
theorem dX5_init_83 : decode cX5_init 83 = .ok (.aload_n 0, 1) := by decide +kernel
theorem dX5_init_84 : decode cX5_init 84 = .ok (.iconst 4, 1) := by decide +kernel
theorem dX5_init_85 : decode cX5_init 85 = .ok (.invokevirtual 42, 3) := by decide +kernel
theorem dX5_init_88 : decode cX5_init 88 = .ok (.return_, 1) := by decide +kernel
theorem dX5_startAnew_0 : decode cX5_startAnew 0 = .ok (.aload_n 0, 1) := by decide +kernel
theorem dX5_startAnew_1 : decode cX5_startAnew 1 = .ok (.iload_n 1, 1) := by decide +kernel
theorem dX5_startAnew_2 : decode cX5_startAnew 2 = .ok (.putfield 46, 3) := by decide +kernel
theorem dX5_startAnew_5 : decode cX5_startAnew 5 = .ok (.aload_n 0, 1) := by decide +kernel
theorem dX5_startAnew_6 : decode cX5_startAnew 6 = .ok (.iconst 0, 1) := by decide +kernel
theorem dX5_startAnew_7 : decode cX5_startAnew 7 = .ok (.putfield 50, 3) := by decide +kernel
theorem dX5_startAnew_10 : decode cX5_startAnew 10 = .ok (.aload_n 0, 1) := by decide +kernel
theorem dX5_startAnew_11 : decode cX5_startAnew 11 = .ok (.iconst 0, 1) := by decide +kernel
theorem dX5_startAnew_12 : decode cX5_startAnew 12 = .ok (.putfield 53, 3) := by decide +kernel
theorem dX5_startAnew_15 : decode cX5_startAnew 15 = .ok (.aload_n 0, 1) := by decide +kernel
theorem dX5_startAnew_16 : decode cX5_startAnew 16 = .ok (.iconst 0, 1) := by decide +kernel
theorem dX5_startAnew_17 : decode cX5_startAnew 17 = .ok (.putfield 56, 3) := by decide +kernel
theorem dX5_startAnew_20 : decode cX5_startAnew 20 = .ok (.aload_n 0, 1) := by decide +kernel
theorem dX5_startAnew_21 : decode cX5_startAnew 21 = .ok (.iconst 0, 1) := by decide +kernel
theorem dX5_startAnew_22 : decode cX5_startAnew 22 = .ok (.putfield 59, 3) := by decide +kernel
theorem dX5_startAnew_25 : decode cX5_startAnew 25 = .ok (.aload_n 0, 1) := by decide +kernel
theorem dX5_startAnew_26 : decode cX5_startAnew 26 = .ok (.iconst 0, 1) := by decide +kernel
theorem dX5_startAnew_27 : decode cX5_startAnew 27 = .ok (.putfield 62, 3) := by decide +kernel
theorem dX5_startAnew_30 : decode cX5_startAnew 30 = .ok (.aload_n 0, 1) := by decide +kernel
theorem dX5_startAnew_31 : decode cX5_startAnew 31 = .ok (.iconst 0, 1) := by decide +kernel
theorem dX5_startAnew_32 : decode cX5_startAnew 32 = .ok (.putfield 65, 3) := by decide +kernel
theorem dX5_startAnew_35 : decode cX5_startAnew 35 = .ok (.iconst 0, 1) := by decide +kernel
theorem dX5_startAnew_36 : decode cX5_startAnew 36 = .ok (.istore_n 2, 1) := by decide +kernel
theorem dX5_startAnew_37 : decode cX5_startAnew 37 = .ok (.iload_n 2, 1) := by decide +kernel
theorem dX5_startAnew_38 : decode cX5_startAnew 38 = .ok (.bipush 7, 2) := by decide +kernel
theorem dX5_startAnew_40 : decode cX5_startAnew 40 = .ok (.if_icmp .ge 44, 3) := by decide +kernel
theorem dX5_startAnew_43 : decode cX5_startAnew 43 = .ok (.aload_n 0, 1) := by decide +kernel
theorem dX5_startAnew_44 : decode cX5_startAnew 44 = .ok (.getfield 9, 3) := by decide +kernel
theorem dX5_startAnew_47 : decode cX5_startAnew 47 = .ok (.iload_n 2, 1) := by decide +kernel
theorem dX5_startAnew_48 : decode cX5_startAnew 48 = .ok (.iconst 0, 1) := by decide +kernel
theorem dX5_startAnew_49 : decode cX5_startAnew 49 = .ok (.iastore, 1) := by decide +kernel
theorem dX5_startAnew_50 : decode cX5_startAnew 50 = .ok (.aload_n 0, 1) := by decide +kernel
theorem dX5_startAnew_51 : decode cX5_startAnew 51 = .ok (.getfield 15, 3) := by decide +kernel
theorem dX5_startAnew_54 : decode cX5_startAnew 54 = .ok (.iload_n 2, 1) := by decide +kernel
theorem dX5_startAnew_55 : decode cX5_startAnew 55 = .ok (.iconst 0, 1) := by decide +kernel
theorem dX5_startAnew_56 : decode cX5_startAnew 56 = .ok (.iastore, 1) := by decide +kernel
theorem dX5_startAnew_57 : decode cX5_startAnew 57 = .ok (.aload_n 0, 1) := by decide +kernel
theorem dX5_startAnew_58 : decode cX5_startAnew 58 = .ok (.getfield 18, 3) := by decide +kernel
theorem dX5_startAnew_61 : decode cX5_startAnew 61 = .ok (.iload_n 2, 1) := by decide +kernel
theorem dX5_startAnew_62 : decode cX5_startAnew 62 = .ok (.iconst 0, 1) := by decide +kernel
theorem dX5_startAnew_63 : decode cX5_startAnew 63 = .ok (.iastore, 1) := by decide +kernel
theorem dX5_startAnew_64 : decode cX5_startAnew 64 = .ok (.aload_n 0, 1) := by decide +kernel
theorem dX5_startAnew_65 : decode cX5_startAnew 65 = .ok (.getfield 21, 3) := by decide +kernel
theorem dX5_startAnew_68 : decode cX5_startAnew 68 = .ok (.iload_n 2, 1) := by decide +kernel
theorem dX5_startAnew_69 : decode cX5_startAnew 69 = .ok (.iconst (-1), 1) := by decide +kernel
theorem dX5_startAnew_70 : decode cX5_startAnew 70 = .ok (.iastore, 1) := by decide +kernel
theorem dX5_startAnew_71 : decode cX5_startAnew 71 = .ok (.aload_n 0, 1) := by decide +kernel
theorem dX5_startAnew_72 : decode cX5_startAnew 72 = .ok (.getfield 24, 3) := by decide +kernel
theorem dX5_startAnew_75 : decode cX5_startAnew 75 = .ok (.iload_n 2, 1) := by decide +kernel
theorem dX5_startAnew_76 : decode cX5_startAnew 76 = .ok (.iconst (-1), 1) := by decide +kernel
theorem dX5_startAnew_77 : decode cX5_startAnew 77 = .ok (.iastore, 1) := by decide +kernel
theorem dX5_startAnew_78 : decode cX5_startAnew 78 = .ok (.iinc 2 1, 3) := by decide +kernel
theorem dX5_startAnew_81 : decode cX5_startAnew 81 = .ok (.goto (-44), 3) := by decide +kernel
theorem dX5_startAnew_84 : decode cX5_startAnew 84 = .ok (.return_, 1) := by decide +kernel
theorem dX5_copyFrom_0 : decode cX5_copyFrom 0 = .ok (.aload_n 0, 1) := by decide +kernel
theorem dX5_copyFrom_1 : decode cX5_copyFrom 1 = .ok (.aload_n 1, 1) := by decide +kernel
theorem dX5_copyFrom_2 : decode cX5_copyFrom 2 = .ok (.getfield 46, 3) := by decide +kernel
theorem dX5_copyFrom_5 : decode cX5_copyFrom 5 = .ok (.putfield 46, 3) := by decide +kernel
theorem dX5_copyFrom_8 : decode cX5_copyFrom 8 = .ok (.aload_n 0, 1) := by decide +kernel
theorem dX5_copyFrom_9 : decode cX5_copyFrom 9 = .ok (.aload_n 1, 1) := by decide +kernel
theorem dX5_copyFrom_10 : decode cX5_copyFrom 10 = .ok (.getfield 50, 3) := by decide +kernel
theorem dX5_copyFrom_13 : decode cX5_copyFrom 13 = .ok (.putfield 50, 3) := by decide +kernel
theorem dX5_copyFrom_16 : decode cX5_copyFrom 16 = .ok (.aload_n 0, 1) := by decide +kernel
theorem dX5_copyFrom_17 : decode cX5_copyFrom 17 = .ok (.aload_n 1, 1) := by decide +kernel
theorem dX5_copyFrom_18 : decode cX5_copyFrom 18 = .ok (.getfield 53, 3) := by decide +kernel
theorem dX5_copyFrom_21 : decode cX5_copyFrom 21 = .ok (.putfield 53, 3) := by decide +kernel
theorem dX5_copyFrom_24 : decode cX5_copyFrom 24 = .ok (.aload_n 0, 1) := by decide +kernel
theorem dX5_copyFrom_25 : decode cX5_copyFrom 25 = .ok (.aload_n 1, 1) := by decide +kernel
theorem dX5_copyFrom_26 : decode cX5_copyFrom 26 = .ok (.getfield 56, 3) := by decide +kernel
theorem dX5_copyFrom_29 : decode cX5_copyFrom 29 = .ok (.putfield 56, 3) := by decide +kernel
theorem dX5_copyFrom_32 : decode cX5_copyFrom 32 = .ok (.aload_n 0, 1) := by decide +kernel
theorem dX5_copyFrom_33 : decode cX5_copyFrom 33 = .ok (.aload_n 1, 1) := by decide +kernel
theorem dX5_copyFrom_34 : decode cX5_copyFrom 34 = .ok (.getfield 59, 3) := by decide +kernel
theorem dX5_copyFrom_37 : decode cX5_copyFrom 37 = .ok (.putfield 59, 3) := by decide +kernel
theorem dX5_copyFrom_40 : decode cX5_copyFrom 40 = .ok (.aload_n 0, 1) := by decide +kernel
theorem dX5_copyFrom_41 : decode cX5_copyFrom 41 = .ok (.aload_n 1, 1) := by decide +kernel
theorem dX5_copyFrom_42 : decode cX5_copyFrom 42 = .ok (.getfield 62, 3) := by decide +kernel
theorem dX5_copyFrom_45 : decode cX5_copyFrom 45 = .ok (.putfield 62, 3) := by decide +kernel
theorem dX5_copyFrom_48 : decode cX5_copyFrom 48 = .ok (.aload_n 0, 1) := by decide +kernel
theorem dX5_copyFrom_49 : decode cX5_copyFrom 49 = .ok (.aload_n 1, 1) := by decide +kernel
theorem dX5_copyFrom_50 : decode cX5_copyFrom 50 = .ok (.getfield 65, 3) := by decide +kernel
theorem dX5_copyFrom_53 : decode cX5_copyFrom 53 = .ok (.putfield 65, 3) := by decide +kernel
theorem dX5_copyFrom_56 : decode cX5_copyFrom 56 = .ok (.aload_n 1, 1) := by decide +kernel
theorem dX5_copyFrom_57 : decode cX5_copyFrom 57 = .ok (.getfield 9, 3) := by decide +kernel
theorem dX5_copyFrom_60 : decode cX5_copyFrom 60 = .ok (.iconst 0, 1) := by decide +kernel
theorem dX5_copyFrom_61 : decode cX5_copyFrom 61 = .ok (.aload_n 0, 1) := by decide +kernel
theorem dX5_copyFrom_62 : decode cX5_copyFrom 62 = .ok (.getfield 9, 3) := by decide +kernel
theorem dX5_copyFrom_65 : decode cX5_copyFrom 65 = .ok (.iconst 0, 1) := by decide +kernel
theorem dX5_copyFrom_66 : decode cX5_copyFrom 66 = .ok (.bipush 7, 2) := by decide +kernel
theorem dX5_copyFrom_68 : decode cX5_copyFrom 68 = .ok (.invokestatic 68, 3) := by decide +kernel
theorem dX5_copyFrom_71 : decode cX5_copyFrom 71 = .ok (.aload_n 1, 1) := by decide +kernel
theorem dX5_copyFrom_72 : decode cX5_copyFrom 72 = .ok (.getfield 15, 3) := by decide +kernel
theorem dX5_copyFrom_75 : decode cX5_copyFrom 75 = .ok (.iconst 0, 1) := by decide +kernel
theorem dX5_copyFrom_76 : decode cX5_copyFrom 76 = .ok (.aload_n 0, 1) := by decide +kernel
theorem dX5_copyFrom_77 : decode cX5_copyFrom 77 = .ok (.getfield 15, 3) := by decide +kernel
theorem dX5_copyFrom_80 : decode cX5_copyFrom 80 = .ok (.iconst 0, 1) := by decide +kernel
theorem dX5_copyFrom_81 : decode cX5_copyFrom 81 = .ok (.bipush 7, 2) := by decide +kernel
theorem dX5_copyFrom_83 : decode cX5_copyFrom 83 = .ok (.invokestatic 68, 3) := by decide +kernel
theorem dX5_copyFrom_86 : decode cX5_copyFrom 86 = .ok (.aload_n 1, 1) := by decide +kernel
theorem dX5_copyFrom_87 : decode cX5_copyFrom 87 = .ok (.getfield 18, 3) := by decide +kernel
theorem dX5_copyFrom_90 : decode cX5_copyFrom 90 = .ok (.iconst 0, 1) := by decide +kernel
theorem dX5_copyFrom_91 : decode cX5_copyFrom 91 = .ok (.aload_n 0, 1) := by decide +kernel
theorem dX5_copyFrom_92 : decode cX5_copyFrom 92 = .ok (.getfield 18, 3) := by decide +kernel
theorem dX5_copyFrom_95 : decode cX5_copyFrom 95 = .ok (.iconst 0, 1) := by decide +kernel
theorem dX5_copyFrom_96 : decode cX5_copyFrom 96 = .ok (.bipush 7, 2) := by decide +kernel
theorem dX5_copyFrom_98 : decode cX5_copyFrom 98 = .ok (.invokestatic 68, 3) := by decide +kernel
theorem dX5_copyFrom_101 : decode cX5_copyFrom 101 = .ok (.aload_n 1, 1) := by decide +kernel
theorem dX5_copyFrom_102 : decode cX5_copyFrom 102 = .ok (.getfield 21, 3) := by decide +kernel
theorem dX5_copyFrom_105 : decode cX5_copyFrom 105 = .ok (.iconst 0, 1) := by decide +kernel
theorem dX5_copyFrom_106 : decode cX5_copyFrom 106 = .ok (.aload_n 0, 1) := by decide +kernel
theorem dX5_copyFrom_107 : decode cX5_copyFrom 107 = .ok (.getfield 21, 3) := by decide +kernel
theorem dX5_copyFrom_110 : decode cX5_copyFrom 110 = .ok (.iconst 0, 1) := by decide +kernel
theorem dX5_copyFrom_111 : decode cX5_copyFrom 111 = .ok (.bipush 7, 2) := by decide +kernel
theorem dX5_copyFrom_113 : decode cX5_copyFrom 113 = .ok (.invokestatic 68, 3) := by decide +kernel
theorem dX5_copyFrom_116 : decode cX5_copyFrom 116 = .ok (.aload_n 1, 1) := by decide +kernel
theorem dX5_copyFrom_117 : decode cX5_copyFrom 117 = .ok (.getfield 24, 3) := by decide +kernel
theorem dX5_copyFrom_120 : decode cX5_copyFrom 120 = .ok (.iconst 0, 1) := by decide +kernel
theorem dX5_copyFrom_121 : decode cX5_copyFrom 121 = .ok (.aload_n 0, 1) := by decide +kernel
theorem dX5_copyFrom_122 : decode cX5_copyFrom 122 = .ok (.getfield 24, 3) := by decide +kernel
theorem dX5_copyFrom_125 : decode cX5_copyFrom 125 = .ok (.iconst 0, 1) := by decide +kernel
theorem dX5_copyFrom_126 : decode cX5_copyFrom 126 = .ok (.bipush 7, 2) := by decide +kernel
theorem dX5_copyFrom_128 : decode cX5_copyFrom 128 = .ok (.invokestatic 68, 3) := by decide +kernel
theorem dX5_copyFrom_131 : decode cX5_copyFrom 131 = .ok (.aload_n 1, 1) := by decide +kernel
theorem dX5_copyFrom_132 : decode cX5_copyFrom 132 = .ok (.getfield 27, 3) := by decide +kernel
theorem dX5_copyFrom_135 : decode cX5_copyFrom 135 = .ok (.iconst 0, 1) := by decide +kernel
theorem dX5_copyFrom_136 : decode cX5_copyFrom 136 = .ok (.aload_n 0, 1) := by decide +kernel
theorem dX5_copyFrom_137 : decode cX5_copyFrom 137 = .ok (.getfield 27, 3) := by decide +kernel
theorem dX5_copyFrom_140 : decode cX5_copyFrom 140 = .ok (.iconst 0, 1) := by decide +kernel
theorem dX5_copyFrom_141 : decode cX5_copyFrom 141 = .ok (.bipush 6, 2) := by decide +kernel
theorem dX5_copyFrom_143 : decode cX5_copyFrom 143 = .ok (.invokestatic 68, 3) := by decide +kernel
theorem dX5_copyFrom_146 : decode cX5_copyFrom 146 = .ok (.aload_n 1, 1) := by decide +kernel
theorem dX5_copyFrom_147 : decode cX5_copyFrom 147 = .ok (.getfield 30, 3) := by decide +kernel
theorem dX5_copyFrom_150 : decode cX5_copyFrom 150 = .ok (.iconst 0, 1) := by decide +kernel
theorem dX5_copyFrom_151 : decode cX5_copyFrom 151 = .ok (.aload_n 0, 1) := by decide +kernel
theorem dX5_copyFrom_152 : decode cX5_copyFrom 152 = .ok (.getfield 30, 3) := by decide +kernel
theorem dX5_copyFrom_155 : decode cX5_copyFrom 155 = .ok (.iconst 0, 1) := by decide +kernel
theorem dX5_copyFrom_156 : decode cX5_copyFrom 156 = .ok (.bipush 6, 2) := by decide +kernel
theorem dX5_copyFrom_158 : decode cX5_copyFrom 158 = .ok (.invokestatic 68, 3) := by decide +kernel
theorem dX5_copyFrom_161 : decode cX5_copyFrom 161 = .ok (.aload_n 1, 1) := by decide +kernel
theorem dX5_copyFrom_162 : decode cX5_copyFrom 162 = .ok (.getfield 33, 3) := by decide +kernel
theorem dX5_copyFrom_165 : decode cX5_copyFrom 165 = .ok (.iconst 0, 1) := by decide +kernel
theorem dX5_copyFrom_166 : decode cX5_copyFrom 166 = .ok (.aload_n 0, 1) := by decide +kernel
theorem dX5_copyFrom_167 : decode cX5_copyFrom 167 = .ok (.getfield 33, 3) := by decide +kernel
theorem dX5_copyFrom_170 : decode cX5_copyFrom 170 = .ok (.iconst 0, 1) := by decide +kernel
theorem dX5_copyFrom_171 : decode cX5_copyFrom 171 = .ok (.bipush 6, 2) := by decide +kernel
theorem dX5_copyFrom_173 : decode cX5_copyFrom 173 = .ok (.invokestatic 68, 3) := by decide +kernel
theorem dX5_copyFrom_176 : decode cX5_copyFrom 176 = .ok (.aload_n 1, 1) := by decide +kernel
theorem dX5_copyFrom_177 : decode cX5_copyFrom 177 = .ok (.getfield 36, 3) := by decide +kernel
theorem dX5_copyFrom_180 : decode cX5_copyFrom 180 = .ok (.iconst 0, 1) := by decide +kernel
theorem dX5_copyFrom_181 : decode cX5_copyFrom 181 = .ok (.aload_n 0, 1) := by decide +kernel
theorem dX5_copyFrom_182 : decode cX5_copyFrom 182 = .ok (.getfield 36, 3) := by decide +kernel
theorem dX5_copyFrom_185 : decode cX5_copyFrom 185 = .ok (.iconst 0, 1) := by decide +kernel
theorem dX5_copyFrom_186 : decode cX5_copyFrom 186 = .ok (.bipush 6, 2) := by decide +kernel
theorem dX5_copyFrom_188 : decode cX5_copyFrom 188 = .ok (.invokestatic 68, 3) := by decide +kernel
theorem dX5_copyFrom_191 : decode cX5_copyFrom 191 = .ok (.aload_n 1, 1) := by decide +kernel
theorem dX5_copyFrom_192 : decode cX5_copyFrom 192 = .ok (.getfield 39, 3) := by decide +kernel
theorem dX5_copyFrom_195 : decode cX5_copyFrom 195 = .ok (.iconst 0, 1) := by decide +kernel
theorem dX5_copyFrom_196 : decode cX5_copyFrom 196 = .ok (.aload_n 0, 1) := by decide +kernel
theorem dX5_copyFrom_197 : decode cX5_copyFrom 197 = .ok (.getfield 39, 3) := by decide +kernel
theorem dX5_copyFrom_200 : decode cX5_copyFrom 200 = .ok (.iconst 0, 1) := by decide +kernel
theorem dX5_copyFrom_201 : decode cX5_copyFrom 201 = .ok (.iconst 3, 1) := by decide +kernel
theorem dX5_copyFrom_202 : decode cX5_copyFrom 202 = .ok (.invokestatic 68, 3) := by decide +kernel
theorem dX5_copyFrom_205 : decode cX5_copyFrom 205 = .ok (.return_, 1) := by decide +kernel
theorem dX5_hasDay_0 : decode cX5_hasDay 0 = .ok (.iload_n 1, 1) := by decide +kernel
theorem dX5_hasDay_1 : decode cX5_hasDay 1 = .ok (.ifCond .lt 15, 3) := by decide +kernel
theorem dX5_hasDay_4 : decode cX5_hasDay 4 = .ok (.iload_n 1, 1) := by decide +kernel
theorem dX5_hasDay_5 : decode cX5_hasDay 5 = .ok (.aload_n 0, 1) := by decide +kernel
theorem dX5_hasDay_6 : decode cX5_hasDay 6 = .ok (.getfield 46, 3) := by decide +kernel
theorem dX5_hasDay_9 : decode cX5_hasDay 9 = .ok (.if_icmp .ge 7, 3) := by decide +kernel
theorem dX5_hasDay_12 : decode cX5_hasDay 12 = .ok (.iconst 1, 1) := by decide +kernel
theorem dX5_hasDay_13 : decode cX5_hasDay 13 = .ok (.goto 4, 3) := by decide +kernel
theorem dX5_hasDay_16 : decode cX5_hasDay 16 = .ok (.iconst 0, 1) := by decide +kernel
theorem dX5_hasDay_17 : decode cX5_hasDay 17 = .ok (.ireturn, 1) := by decide +kernel
theorem dX5_orders_0 : decode cX5_orders 0 = .ok (.getstatic 74, 3) := by decide +kernel
theorem dX5_orders_3 : decode cX5_orders 3 = .ok (.aload_n 0, 1) := by decide +kernel
theorem dX5_orders_4 : decode cX5_orders 4 = .ok (.getfield 46, 3) := by decide +kernel
theorem dX5_orders_7 : decode cX5_orders 7 = .ok (.iaload, 1) := by decide +kernel
theorem dX5_orders_8 : decode cX5_orders 8 = .ok (.ireturn, 1) := by decide +kernel
theorem dX5_hasRank_0 : decode cX5_hasRank 0 = .ok (.iload_n 1, 1) := by decide +kernel
theorem dX5_hasRank_1 : decode cX5_hasRank 1 = .ok (.ifCond .lt 15, 3) := by decide +kernel
theorem dX5_hasRank_4 : decode cX5_hasRank 4 = .ok (.iload_n 1, 1) := by decide +kernel
theorem dX5_hasRank_5 : decode cX5_hasRank 5 = .ok (.aload_n 0, 1) := by decide +kernel
theorem dX5_hasRank_6 : decode cX5_hasRank 6 = .ok (.invokevirtual 77, 3) := by decide +kernel
theorem dX5_hasRank_9 : decode cX5_hasRank 9 = .ok (.if_icmp .ge 7, 3) := by decide +kernel
theorem dX5_hasRank_12 : decode cX5_hasRank 12 = .ok (.iconst 1, 1) := by decide +kernel
theorem dX5_hasRank_13 : decode cX5_hasRank 13 = .ok (.goto 4, 3) := by decide +kernel
theorem dX5_hasRank_16 : decode cX5_hasRank 16 = .ok (.iconst 0, 1) := by decide +kernel
theorem dX5_hasRank_17 : decode cX5_hasRank 17 = .ok (.ireturn, 1) := by decide +kernel
theorem dX5_tellDays_0 : decode cX5_tellDays 0 = .ok (.iload_n 1, 1) := by decide +kernel
theorem dX5_tellDays_1 : decode cX5_tellDays 1 = .ok (.iconst 1, 1) := by decide +kernel
theorem dX5_tellDays_2 : decode cX5_tellDays 2 = .ok (.if_icmp .lt 9, 3) := by decide +kernel
theorem dX5_tellDays_5 : decode cX5_tellDays 5 = .ok (.iload_n 1, 1) := by decide +kernel
theorem dX5_tellDays_6 : decode cX5_tellDays 6 = .ok (.bipush 7, 2) := by decide +kernel
theorem dX5_tellDays_8 : decode cX5_tellDays 8 = .ok (.if_icmp .le 6, 3) := by decide +kernel
theorem dX5_tellDays_11 : decode cX5_tellDays 11 = .ok (.bipush (-2), 2) := by decide +kernel
theorem dX5_tellDays_13 : decode cX5_tellDays 13 = .ok (.ireturn, 1) := by decide +kernel
theorem dX5_tellDays_14 : decode cX5_tellDays 14 = .ok (.aload_n 0, 1) := by decide +kernel
theorem dX5_tellDays_15 : decode cX5_tellDays 15 = .ok (.getfield 46, 3) := by decide +kernel
theorem dX5_tellDays_18 : decode cX5_tellDays 18 = .ok (.istore_n 2, 1) := by decide +kernel
theorem dX5_tellDays_19 : decode cX5_tellDays 19 = .ok (.aload_n 0, 1) := by decide +kernel
theorem dX5_tellDays_20 : decode cX5_tellDays 20 = .ok (.iload_n 1, 1) := by decide +kernel
theorem dX5_tellDays_21 : decode cX5_tellDays 21 = .ok (.invokevirtual 42, 3) := by decide +kernel
theorem dX5_tellDays_24 : decode cX5_tellDays 24 = .ok (.iload_n 2, 1) := by decide +kernel
theorem dX5_tellDays_25 : decode cX5_tellDays 25 = .ok (.ireturn, 1) := by decide +kernel
theorem dX5_tellKind_0 : decode cX5_tellKind 0 = .ok (.aload_n 0, 1) := by decide +kernel
theorem dX5_tellKind_1 : decode cX5_tellKind 1 = .ok (.iload_n 1, 1) := by decide +kernel
theorem dX5_tellKind_2 : decode cX5_tellKind 2 = .ok (.invokevirtual 81, 3) := by decide +kernel
theorem dX5_tellKind_5 : decode cX5_tellKind 5 = .ok (.ifCond .eq 13, 3) := by decide +kernel
theorem dX5_tellKind_8 : decode cX5_tellKind 8 = .ok (.iload_n 2, 1) := by decide +kernel
theorem dX5_tellKind_9 : decode cX5_tellKind 9 = .ok (.ifCond .lt 9, 3) := by decide +kernel
theorem dX5_tellKind_12 : decode cX5_tellKind 12 = .ok (.iload_n 2, 1) := by decide +kernel
theorem dX5_tellKind_13 : decode cX5_tellKind 13 = .ok (.bipush 6, 2) := by decide +kernel
theorem dX5_tellKind_15 : decode cX5_tellKind 15 = .ok (.if_icmp .lt 6, 3) := by decide +kernel
theorem dX5_tellKind_18 : decode cX5_tellKind 18 = .ok (.bipush (-2), 2) := by decide +kernel
theorem dX5_tellKind_20 : decode cX5_tellKind 20 = .ok (.ireturn, 1) := by decide +kernel
theorem dX5_tellKind_21 : decode cX5_tellKind 21 = .ok (.aload_n 0, 1) := by decide +kernel
theorem dX5_tellKind_22 : decode cX5_tellKind 22 = .ok (.getfield 9, 3) := by decide +kernel
theorem dX5_tellKind_25 : decode cX5_tellKind 25 = .ok (.iload_n 1, 1) := by decide +kernel
theorem dX5_tellKind_26 : decode cX5_tellKind 26 = .ok (.iaload, 1) := by decide +kernel
theorem dX5_tellKind_27 : decode cX5_tellKind 27 = .ok (.istore_n 3, 1) := by decide +kernel
theorem dX5_tellKind_28 : decode cX5_tellKind 28 = .ok (.aload_n 0, 1) := by decide +kernel
theorem dX5_tellKind_29 : decode cX5_tellKind 29 = .ok (.getfield 9, 3) := by decide +kernel
theorem dX5_tellKind_32 : decode cX5_tellKind 32 = .ok (.iload_n 1, 1) := by decide +kernel
theorem dX5_tellKind_33 : decode cX5_tellKind 33 = .ok (.iload_n 2, 1) := by decide +kernel
theorem dX5_tellKind_34 : decode cX5_tellKind 34 = .ok (.iastore, 1) := by decide +kernel
theorem dX5_tellKind_35 : decode cX5_tellKind 35 = .ok (.aload_n 0, 1) := by decide +kernel
theorem dX5_tellKind_36 : decode cX5_tellKind 36 = .ok (.iconst 0, 1) := by decide +kernel
theorem dX5_tellKind_37 : decode cX5_tellKind 37 = .ok (.putfield 65, 3) := by decide +kernel
theorem dX5_tellKind_40 : decode cX5_tellKind 40 = .ok (.iload_n 3, 1) := by decide +kernel
theorem dX5_tellKind_41 : decode cX5_tellKind 41 = .ok (.ireturn, 1) := by decide +kernel
theorem dX5_tellFact_0 : decode cX5_tellFact 0 = .ok (.aload_n 0, 1) := by decide +kernel
theorem dX5_tellFact_1 : decode cX5_tellFact 1 = .ok (.iload_n 1, 1) := by decide +kernel
theorem dX5_tellFact_2 : decode cX5_tellFact 2 = .ok (.invokevirtual 81, 3) := by decide +kernel
theorem dX5_tellFact_5 : decode cX5_tellFact 5 = .ok (.ifCond .eq 19, 3) := by decide +kernel
theorem dX5_tellFact_8 : decode cX5_tellFact 8 = .ok (.iload_n 2, 1) := by decide +kernel
theorem dX5_tellFact_9 : decode cX5_tellFact 9 = .ok (.ifCond .lt 15, 3) := by decide +kernel
theorem dX5_tellFact_12 : decode cX5_tellFact 12 = .ok (.iload_n 2, 1) := by decide +kernel
theorem dX5_tellFact_13 : decode cX5_tellFact 13 = .ok (.iconst 1, 1) := by decide +kernel
theorem dX5_tellFact_14 : decode cX5_tellFact 14 = .ok (.if_icmp .gt 10, 3) := by decide +kernel
theorem dX5_tellFact_17 : decode cX5_tellFact 17 = .ok (.iload_n 3, 1) := by decide +kernel
theorem dX5_tellFact_18 : decode cX5_tellFact 18 = .ok (.invokestatic 85, 3) := by decide +kernel
theorem dX5_tellFact_21 : decode cX5_tellFact 21 = .ok (.ifCond .ne 6, 3) := by decide +kernel
theorem dX5_tellFact_24 : decode cX5_tellFact 24 = .ok (.bipush (-2), 2) := by decide +kernel
theorem dX5_tellFact_26 : decode cX5_tellFact 26 = .ok (.ireturn, 1) := by decide +kernel
theorem dX5_tellFact_27 : decode cX5_tellFact 27 = .ok (.iload_n 2, 1) := by decide +kernel
theorem dX5_tellFact_28 : decode cX5_tellFact 28 = .ok (.ifCond .ne 10, 3) := by decide +kernel
theorem dX5_tellFact_31 : decode cX5_tellFact 31 = .ok (.aload_n 0, 1) := by decide +kernel
theorem dX5_tellFact_32 : decode cX5_tellFact 32 = .ok (.getfield 15, 3) := by decide +kernel
theorem dX5_tellFact_35 : decode cX5_tellFact 35 = .ok (.goto 7, 3) := by decide +kernel
theorem dX5_tellFact_38 : decode cX5_tellFact 38 = .ok (.aload_n 0, 1) := by decide +kernel
theorem dX5_tellFact_39 : decode cX5_tellFact 39 = .ok (.getfield 18, 3) := by decide +kernel
theorem dX5_tellFact_42 : decode cX5_tellFact 42 = .ok (.astore 5, 2) := by decide +kernel
theorem dX5_tellFact_44 : decode cX5_tellFact 44 = .ok (.aload 5, 2) := by decide +kernel
theorem dX5_tellFact_46 : decode cX5_tellFact 46 = .ok (.iload_n 1, 1) := by decide +kernel
theorem dX5_tellFact_47 : decode cX5_tellFact 47 = .ok (.iaload, 1) := by decide +kernel
theorem dX5_tellFact_48 : decode cX5_tellFact 48 = .ok (.iload_n 3, 1) := by decide +kernel
theorem dX5_tellFact_49 : decode cX5_tellFact 49 = .ok (.ishr, 1) := by decide +kernel
theorem dX5_tellFact_50 : decode cX5_tellFact 50 = .ok (.iconst 1, 1) := by decide +kernel
theorem dX5_tellFact_51 : decode cX5_tellFact 51 = .ok (.iand, 1) := by decide +kernel
theorem dX5_tellFact_52 : decode cX5_tellFact 52 = .ok (.ifCond .eq 7, 3) := by decide +kernel
theorem dX5_tellFact_55 : decode cX5_tellFact 55 = .ok (.iconst 1, 1) := by decide +kernel
theorem dX5_tellFact_56 : decode cX5_tellFact 56 = .ok (.goto 4, 3) := by decide +kernel
theorem dX5_tellFact_59 : decode cX5_tellFact 59 = .ok (.iconst 0, 1) := by decide +kernel
theorem dX5_tellFact_60 : decode cX5_tellFact 60 = .ok (.istore 6, 2) := by decide +kernel
theorem dX5_tellFact_62 : decode cX5_tellFact 62 = .ok (.iload 6, 2) := by decide +kernel
theorem dX5_tellFact_64 : decode cX5_tellFact 64 = .ok (.iload 4, 2) := by decide +kernel
theorem dX5_tellFact_66 : decode cX5_tellFact 66 = .ok (.if_icmp .ne 6, 3) := by decide +kernel
theorem dX5_tellFact_69 : decode cX5_tellFact 69 = .ok (.bipush (-3), 2) := by decide +kernel
theorem dX5_tellFact_71 : decode cX5_tellFact 71 = .ok (.ireturn, 1) := by decide +kernel
theorem dX5_tellFact_72 : decode cX5_tellFact 72 = .ok (.aload 5, 2) := by decide +kernel
theorem dX5_tellFact_74 : decode cX5_tellFact 74 = .ok (.iload_n 1, 1) := by decide +kernel
theorem dX5_tellFact_75 : decode cX5_tellFact 75 = .ok (.dup2, 1) := by decide +kernel
theorem dX5_tellFact_76 : decode cX5_tellFact 76 = .ok (.iaload, 1) := by decide +kernel
theorem dX5_tellFact_77 : decode cX5_tellFact 77 = .ok (.iconst 1, 1) := by decide +kernel
theorem dX5_tellFact_78 : decode cX5_tellFact 78 = .ok (.iload_n 3, 1) := by decide +kernel
theorem dX5_tellFact_79 : decode cX5_tellFact 79 = .ok (.ishl, 1) := by decide +kernel
theorem dX5_tellFact_80 : decode cX5_tellFact 80 = .ok (.ixor, 1) := by decide +kernel
theorem dX5_tellFact_81 : decode cX5_tellFact 81 = .ok (.iastore, 1) := by decide +kernel
theorem dX5_tellFact_82 : decode cX5_tellFact 82 = .ok (.aload_n 0, 1) := by decide +kernel
theorem dX5_tellFact_83 : decode cX5_tellFact 83 = .ok (.iconst 0, 1) := by decide +kernel
theorem dX5_tellFact_84 : decode cX5_tellFact 84 = .ok (.putfield 65, 3) := by decide +kernel
theorem dX5_tellFact_87 : decode cX5_tellFact 87 = .ok (.iconst 1, 1) := by decide +kernel
theorem dX5_tellFact_88 : decode cX5_tellFact 88 = .ok (.ireturn, 1) := by decide +kernel
theorem dX5_tellNote_0 : decode cX5_tellNote 0 = .ok (.aload_n 0, 1) := by decide +kernel
theorem dX5_tellNote_1 : decode cX5_tellNote 1 = .ok (.iload_n 1, 1) := by decide +kernel
theorem dX5_tellNote_2 : decode cX5_tellNote 2 = .ok (.invokevirtual 81, 3) := by decide +kernel
theorem dX5_tellNote_5 : decode cX5_tellNote 5 = .ok (.ifCond .eq 10, 3) := by decide +kernel
theorem dX5_tellNote_8 : decode cX5_tellNote 8 = .ok (.iload_n 2, 1) := by decide +kernel
theorem dX5_tellNote_9 : decode cX5_tellNote 9 = .ok (.invokestatic 85, 3) := by decide +kernel
theorem dX5_tellNote_12 : decode cX5_tellNote 12 = .ok (.ifCond .ne 6, 3) := by decide +kernel
theorem dX5_tellNote_15 : decode cX5_tellNote 15 = .ok (.bipush (-2), 2) := by decide +kernel
theorem dX5_tellNote_17 : decode cX5_tellNote 17 = .ok (.ireturn, 1) := by decide +kernel
theorem dX5_tellNote_18 : decode cX5_tellNote 18 = .ok (.aload_n 0, 1) := by decide +kernel
theorem dX5_tellNote_19 : decode cX5_tellNote 19 = .ok (.iload_n 1, 1) := by decide +kernel
theorem dX5_tellNote_20 : decode cX5_tellNote 20 = .ok (.invokevirtual 88, 3) := by decide +kernel
theorem dX5_tellNote_23 : decode cX5_tellNote 23 = .ok (.iload_n 2, 1) := by decide +kernel
theorem dX5_tellNote_24 : decode cX5_tellNote 24 = .ok (.ishr, 1) := by decide +kernel
theorem dX5_tellNote_25 : decode cX5_tellNote 25 = .ok (.iconst 1, 1) := by decide +kernel
theorem dX5_tellNote_26 : decode cX5_tellNote 26 = .ok (.iand, 1) := by decide +kernel
theorem dX5_tellNote_27 : decode cX5_tellNote 27 = .ok (.ifCond .eq 6, 3) := by decide +kernel
theorem dX5_tellNote_30 : decode cX5_tellNote 30 = .ok (.bipush (-3), 2) := by decide +kernel
theorem dX5_tellNote_32 : decode cX5_tellNote 32 = .ok (.ireturn, 1) := by decide +kernel
theorem dX5_tellNote_33 : decode cX5_tellNote 33 = .ok (.aload_n 0, 1) := by decide +kernel
theorem dX5_tellNote_34 : decode cX5_tellNote 34 = .ok (.getfield 50, 3) := by decide +kernel
theorem dX5_tellNote_37 : decode cX5_tellNote 37 = .ok (.bipush 6, 2) := by decide +kernel
theorem dX5_tellNote_39 : decode cX5_tellNote 39 = .ok (.if_icmp .lt 6, 3) := by decide +kernel
theorem dX5_tellNote_42 : decode cX5_tellNote 42 = .ok (.bipush (-4), 2) := by decide +kernel
theorem dX5_tellNote_44 : decode cX5_tellNote 44 = .ok (.ireturn, 1) := by decide +kernel
theorem dX5_tellNote_45 : decode cX5_tellNote 45 = .ok (.aload_n 0, 1) := by decide +kernel
theorem dX5_tellNote_46 : decode cX5_tellNote 46 = .ok (.getfield 27, 3) := by decide +kernel
theorem dX5_tellNote_49 : decode cX5_tellNote 49 = .ok (.aload_n 0, 1) := by decide +kernel
theorem dX5_tellNote_50 : decode cX5_tellNote 50 = .ok (.getfield 50, 3) := by decide +kernel
theorem dX5_tellNote_53 : decode cX5_tellNote 53 = .ok (.iload_n 1, 1) := by decide +kernel
theorem dX5_tellNote_54 : decode cX5_tellNote 54 = .ok (.iastore, 1) := by decide +kernel
theorem dX5_tellNote_55 : decode cX5_tellNote 55 = .ok (.aload_n 0, 1) := by decide +kernel
theorem dX5_tellNote_56 : decode cX5_tellNote 56 = .ok (.getfield 30, 3) := by decide +kernel
theorem dX5_tellNote_59 : decode cX5_tellNote 59 = .ok (.aload_n 0, 1) := by decide +kernel
theorem dX5_tellNote_60 : decode cX5_tellNote 60 = .ok (.getfield 50, 3) := by decide +kernel
theorem dX5_tellNote_63 : decode cX5_tellNote 63 = .ok (.iload_n 2, 1) := by decide +kernel
theorem dX5_tellNote_64 : decode cX5_tellNote 64 = .ok (.iastore, 1) := by decide +kernel
theorem dX5_tellNote_65 : decode cX5_tellNote 65 = .ok (.aload_n 0, 1) := by decide +kernel
theorem dX5_tellNote_66 : decode cX5_tellNote 66 = .ok (.iconst 0, 1) := by decide +kernel
theorem dX5_tellNote_67 : decode cX5_tellNote 67 = .ok (.putfield 65, 3) := by decide +kernel
theorem dX5_tellNote_70 : decode cX5_tellNote 70 = .ok (.aload_n 0, 1) := by decide +kernel
theorem dX5_tellNote_71 : decode cX5_tellNote 71 = .ok (.dup, 1) := by decide +kernel
theorem dX5_tellNote_72 : decode cX5_tellNote 72 = .ok (.getfield 50, 3) := by decide +kernel
theorem dX5_tellNote_75 : decode cX5_tellNote 75 = .ok (.dup_x1, 1) := by decide +kernel
theorem dX5_tellNote_76 : decode cX5_tellNote 76 = .ok (.iconst 1, 1) := by decide +kernel
theorem dX5_tellNote_77 : decode cX5_tellNote 77 = .ok (.iadd, 1) := by decide +kernel
theorem dX5_tellNote_78 : decode cX5_tellNote 78 = .ok (.putfield 50, 3) := by decide +kernel
theorem dX5_tellNote_81 : decode cX5_tellNote 81 = .ok (.ireturn, 1) := by decide +kernel
theorem dX5_tellPair_0 : decode cX5_tellPair 0 = .ok (.aload_n 0, 1) := by decide +kernel
theorem dX5_tellPair_1 : decode cX5_tellPair 1 = .ok (.iload_n 1, 1) := by decide +kernel
theorem dX5_tellPair_2 : decode cX5_tellPair 2 = .ok (.invokevirtual 81, 3) := by decide +kernel
theorem dX5_tellPair_5 : decode cX5_tellPair 5 = .ok (.ifCond .eq 16, 3) := by decide +kernel
theorem dX5_tellPair_8 : decode cX5_tellPair 8 = .ok (.aload_n 0, 1) := by decide +kernel
theorem dX5_tellPair_9 : decode cX5_tellPair 9 = .ok (.iload_n 2, 1) := by decide +kernel
theorem dX5_tellPair_10 : decode cX5_tellPair 10 = .ok (.invokevirtual 81, 3) := by decide +kernel
theorem dX5_tellPair_13 : decode cX5_tellPair 13 = .ok (.ifCond .eq 8, 3) := by decide +kernel
theorem dX5_tellPair_16 : decode cX5_tellPair 16 = .ok (.iload_n 1, 1) := by decide +kernel
theorem dX5_tellPair_17 : decode cX5_tellPair 17 = .ok (.iload_n 2, 1) := by decide +kernel
theorem dX5_tellPair_18 : decode cX5_tellPair 18 = .ok (.if_icmp .ne 6, 3) := by decide +kernel
theorem dX5_tellPair_21 : decode cX5_tellPair 21 = .ok (.bipush (-2), 2) := by decide +kernel
theorem dX5_tellPair_23 : decode cX5_tellPair 23 = .ok (.ireturn, 1) := by decide +kernel
theorem dX5_tellPair_24 : decode cX5_tellPair 24 = .ok (.aload_n 0, 1) := by decide +kernel
theorem dX5_tellPair_25 : decode cX5_tellPair 25 = .ok (.getfield 53, 3) := by decide +kernel
theorem dX5_tellPair_28 : decode cX5_tellPair 28 = .ok (.bipush 6, 2) := by decide +kernel
theorem dX5_tellPair_30 : decode cX5_tellPair 30 = .ok (.if_icmp .lt 6, 3) := by decide +kernel
theorem dX5_tellPair_33 : decode cX5_tellPair 33 = .ok (.bipush (-4), 2) := by decide +kernel
theorem dX5_tellPair_35 : decode cX5_tellPair 35 = .ok (.ireturn, 1) := by decide +kernel
theorem dX5_tellPair_36 : decode cX5_tellPair 36 = .ok (.aload_n 0, 1) := by decide +kernel
theorem dX5_tellPair_37 : decode cX5_tellPair 37 = .ok (.getfield 33, 3) := by decide +kernel
theorem dX5_tellPair_40 : decode cX5_tellPair 40 = .ok (.aload_n 0, 1) := by decide +kernel
theorem dX5_tellPair_41 : decode cX5_tellPair 41 = .ok (.getfield 53, 3) := by decide +kernel
theorem dX5_tellPair_44 : decode cX5_tellPair 44 = .ok (.iload_n 1, 1) := by decide +kernel
theorem dX5_tellPair_45 : decode cX5_tellPair 45 = .ok (.iastore, 1) := by decide +kernel
theorem dX5_tellPair_46 : decode cX5_tellPair 46 = .ok (.aload_n 0, 1) := by decide +kernel
theorem dX5_tellPair_47 : decode cX5_tellPair 47 = .ok (.getfield 36, 3) := by decide +kernel
theorem dX5_tellPair_50 : decode cX5_tellPair 50 = .ok (.aload_n 0, 1) := by decide +kernel
theorem dX5_tellPair_51 : decode cX5_tellPair 51 = .ok (.getfield 53, 3) := by decide +kernel
theorem dX5_tellPair_54 : decode cX5_tellPair 54 = .ok (.iload_n 2, 1) := by decide +kernel
theorem dX5_tellPair_55 : decode cX5_tellPair 55 = .ok (.iastore, 1) := by decide +kernel
theorem dX5_tellPair_56 : decode cX5_tellPair 56 = .ok (.aload_n 0, 1) := by decide +kernel
theorem dX5_tellPair_57 : decode cX5_tellPair 57 = .ok (.dup, 1) := by decide +kernel
theorem dX5_tellPair_58 : decode cX5_tellPair 58 = .ok (.getfield 53, 3) := by decide +kernel
theorem dX5_tellPair_61 : decode cX5_tellPair 61 = .ok (.dup_x1, 1) := by decide +kernel
theorem dX5_tellPair_62 : decode cX5_tellPair 62 = .ok (.iconst 1, 1) := by decide +kernel
theorem dX5_tellPair_63 : decode cX5_tellPair 63 = .ok (.iadd, 1) := by decide +kernel
theorem dX5_tellPair_64 : decode cX5_tellPair 64 = .ok (.putfield 53, 3) := by decide +kernel
theorem dX5_tellPair_67 : decode cX5_tellPair 67 = .ok (.ireturn, 1) := by decide +kernel
theorem dX5_tellPlace_0 : decode cX5_tellPlace 0 = .ok (.aload_n 0, 1) := by decide +kernel
theorem dX5_tellPlace_1 : decode cX5_tellPlace 1 = .ok (.iload_n 1, 1) := by decide +kernel
theorem dX5_tellPlace_2 : decode cX5_tellPlace 2 = .ok (.invokevirtual 81, 3) := by decide +kernel
theorem dX5_tellPlace_5 : decode cX5_tellPlace 5 = .ok (.ifCond .eq 16, 3) := by decide +kernel
theorem dX5_tellPlace_8 : decode cX5_tellPlace 8 = .ok (.iload_n 2, 1) := by decide +kernel
theorem dX5_tellPlace_9 : decode cX5_tellPlace 9 = .ok (.iconst (-1), 1) := by decide +kernel
theorem dX5_tellPlace_10 : decode cX5_tellPlace 10 = .ok (.if_icmp .eq 14, 3) := by decide +kernel
theorem dX5_tellPlace_13 : decode cX5_tellPlace 13 = .ok (.aload_n 0, 1) := by decide +kernel
theorem dX5_tellPlace_14 : decode cX5_tellPlace 14 = .ok (.iload_n 2, 1) := by decide +kernel
theorem dX5_tellPlace_15 : decode cX5_tellPlace 15 = .ok (.invokevirtual 81, 3) := by decide +kernel
theorem dX5_tellPlace_18 : decode cX5_tellPlace 18 = .ok (.ifCond .ne 6, 3) := by decide +kernel
theorem dX5_tellPlace_21 : decode cX5_tellPlace 21 = .ok (.bipush (-2), 2) := by decide +kernel
theorem dX5_tellPlace_23 : decode cX5_tellPlace 23 = .ok (.ireturn, 1) := by decide +kernel
theorem dX5_tellPlace_24 : decode cX5_tellPlace 24 = .ok (.aload_n 0, 1) := by decide +kernel
theorem dX5_tellPlace_25 : decode cX5_tellPlace 25 = .ok (.getfield 21, 3) := by decide +kernel
theorem dX5_tellPlace_28 : decode cX5_tellPlace 28 = .ok (.iload_n 1, 1) := by decide +kernel
theorem dX5_tellPlace_29 : decode cX5_tellPlace 29 = .ok (.iaload, 1) := by decide +kernel
theorem dX5_tellPlace_30 : decode cX5_tellPlace 30 = .ok (.istore_n 3, 1) := by decide +kernel
theorem dX5_tellPlace_31 : decode cX5_tellPlace 31 = .ok (.aload_n 0, 1) := by decide +kernel
theorem dX5_tellPlace_32 : decode cX5_tellPlace 32 = .ok (.getfield 21, 3) := by decide +kernel
theorem dX5_tellPlace_35 : decode cX5_tellPlace 35 = .ok (.iload_n 1, 1) := by decide +kernel
theorem dX5_tellPlace_36 : decode cX5_tellPlace 36 = .ok (.iload_n 2, 1) := by decide +kernel
theorem dX5_tellPlace_37 : decode cX5_tellPlace 37 = .ok (.iastore, 1) := by decide +kernel
theorem dX5_tellPlace_38 : decode cX5_tellPlace 38 = .ok (.iload_n 3, 1) := by decide +kernel
theorem dX5_tellPlace_39 : decode cX5_tellPlace 39 = .ok (.ireturn, 1) := by decide +kernel
theorem dX5_tellDiary_0 : decode cX5_tellDiary 0 = .ok (.aload_n 0, 1) := by decide +kernel
theorem dX5_tellDiary_1 : decode cX5_tellDiary 1 = .ok (.iload_n 1, 1) := by decide +kernel
theorem dX5_tellDiary_2 : decode cX5_tellDiary 2 = .ok (.invokevirtual 81, 3) := by decide +kernel
theorem dX5_tellDiary_5 : decode cX5_tellDiary 5 = .ok (.ifCond .eq 14, 3) := by decide +kernel
theorem dX5_tellDiary_8 : decode cX5_tellDiary 8 = .ok (.iload_n 2, 1) := by decide +kernel
theorem dX5_tellDiary_9 : decode cX5_tellDiary 9 = .ok (.iconst (-1), 1) := by decide +kernel
theorem dX5_tellDiary_10 : decode cX5_tellDiary 10 = .ok (.if_icmp .lt 9, 3) := by decide +kernel
theorem dX5_tellDiary_13 : decode cX5_tellDiary 13 = .ok (.iload_n 2, 1) := by decide +kernel
theorem dX5_tellDiary_14 : decode cX5_tellDiary 14 = .ok (.bipush 63, 2) := by decide +kernel
theorem dX5_tellDiary_16 : decode cX5_tellDiary 16 = .ok (.if_icmp .le 6, 3) := by decide +kernel
theorem dX5_tellDiary_19 : decode cX5_tellDiary 19 = .ok (.bipush (-2), 2) := by decide +kernel
theorem dX5_tellDiary_21 : decode cX5_tellDiary 21 = .ok (.ireturn, 1) := by decide +kernel
theorem dX5_tellDiary_22 : decode cX5_tellDiary 22 = .ok (.aload_n 0, 1) := by decide +kernel
theorem dX5_tellDiary_23 : decode cX5_tellDiary 23 = .ok (.getfield 24, 3) := by decide +kernel
theorem dX5_tellDiary_26 : decode cX5_tellDiary 26 = .ok (.iload_n 1, 1) := by decide +kernel
theorem dX5_tellDiary_27 : decode cX5_tellDiary 27 = .ok (.iaload, 1) := by decide +kernel
theorem dX5_tellDiary_28 : decode cX5_tellDiary 28 = .ok (.istore_n 3, 1) := by decide +kernel
theorem dX5_tellDiary_29 : decode cX5_tellDiary 29 = .ok (.aload_n 0, 1) := by decide +kernel
theorem dX5_tellDiary_30 : decode cX5_tellDiary 30 = .ok (.getfield 24, 3) := by decide +kernel
theorem dX5_tellDiary_33 : decode cX5_tellDiary 33 = .ok (.iload_n 1, 1) := by decide +kernel
theorem dX5_tellDiary_34 : decode cX5_tellDiary 34 = .ok (.iload_n 2, 1) := by decide +kernel
theorem dX5_tellDiary_35 : decode cX5_tellDiary 35 = .ok (.iastore, 1) := by decide +kernel
theorem dX5_tellDiary_36 : decode cX5_tellDiary 36 = .ok (.iload_n 3, 1) := by decide +kernel
theorem dX5_tellDiary_37 : decode cX5_tellDiary 37 = .ok (.ireturn, 1) := by decide +kernel
theorem dX5_tellOrder_0 : decode cX5_tellOrder 0 = .ok (.aload_n 0, 1) := by decide +kernel
theorem dX5_tellOrder_1 : decode cX5_tellOrder 1 = .ok (.iload_n 1, 1) := by decide +kernel
theorem dX5_tellOrder_2 : decode cX5_tellOrder 2 = .ok (.invokevirtual 92, 3) := by decide +kernel
theorem dX5_tellOrder_5 : decode cX5_tellOrder 5 = .ok (.ifCond .ne 6, 3) := by decide +kernel
theorem dX5_tellOrder_8 : decode cX5_tellOrder 8 = .ok (.bipush (-2), 2) := by decide +kernel
theorem dX5_tellOrder_10 : decode cX5_tellOrder 10 = .ok (.ireturn, 1) := by decide +kernel
theorem dX5_tellOrder_11 : decode cX5_tellOrder 11 = .ok (.aload_n 0, 1) := by decide +kernel
theorem dX5_tellOrder_12 : decode cX5_tellOrder 12 = .ok (.getfield 59, 3) := by decide +kernel
theorem dX5_tellOrder_15 : decode cX5_tellOrder 15 = .ok (.istore_n 2, 1) := by decide +kernel
theorem dX5_tellOrder_16 : decode cX5_tellOrder 16 = .ok (.aload_n 0, 1) := by decide +kernel
theorem dX5_tellOrder_17 : decode cX5_tellOrder 17 = .ok (.iload_n 1, 1) := by decide +kernel
theorem dX5_tellOrder_18 : decode cX5_tellOrder 18 = .ok (.putfield 59, 3) := by decide +kernel
theorem dX5_tellOrder_21 : decode cX5_tellOrder 21 = .ok (.aload_n 0, 1) := by decide +kernel
theorem dX5_tellOrder_22 : decode cX5_tellOrder 22 = .ok (.iconst 0, 1) := by decide +kernel
theorem dX5_tellOrder_23 : decode cX5_tellOrder 23 = .ok (.putfield 65, 3) := by decide +kernel
theorem dX5_tellOrder_26 : decode cX5_tellOrder 26 = .ok (.iload_n 2, 1) := by decide +kernel
theorem dX5_tellOrder_27 : decode cX5_tellOrder 27 = .ok (.ireturn, 1) := by decide +kernel
theorem dX5_tellOther_0 : decode cX5_tellOther 0 = .ok (.aload_n 0, 1) := by decide +kernel
theorem dX5_tellOther_1 : decode cX5_tellOther 1 = .ok (.iload_n 1, 1) := by decide +kernel
theorem dX5_tellOther_2 : decode cX5_tellOther 2 = .ok (.invokevirtual 92, 3) := by decide +kernel
theorem dX5_tellOther_5 : decode cX5_tellOther 5 = .ok (.ifCond .ne 6, 3) := by decide +kernel
theorem dX5_tellOther_8 : decode cX5_tellOther 8 = .ok (.bipush (-2), 2) := by decide +kernel
theorem dX5_tellOther_10 : decode cX5_tellOther 10 = .ok (.ireturn, 1) := by decide +kernel
theorem dX5_tellOther_11 : decode cX5_tellOther 11 = .ok (.aload_n 0, 1) := by decide +kernel
theorem dX5_tellOther_12 : decode cX5_tellOther 12 = .ok (.getfield 62, 3) := by decide +kernel
theorem dX5_tellOther_15 : decode cX5_tellOther 15 = .ok (.istore_n 2, 1) := by decide +kernel
theorem dX5_tellOther_16 : decode cX5_tellOther 16 = .ok (.aload_n 0, 1) := by decide +kernel
theorem dX5_tellOther_17 : decode cX5_tellOther 17 = .ok (.iload_n 1, 1) := by decide +kernel
theorem dX5_tellOther_18 : decode cX5_tellOther 18 = .ok (.putfield 62, 3) := by decide +kernel
theorem dX5_tellOther_21 : decode cX5_tellOther 21 = .ok (.iload_n 2, 1) := by decide +kernel
theorem dX5_tellOther_22 : decode cX5_tellOther 22 = .ok (.ireturn, 1) := by decide +kernel
theorem dX5_tellForNotes_0 : decode cX5_tellForNotes 0 = .ok (.aload_n 0, 1) := by decide +kernel
theorem dX5_tellForNotes_1 : decode cX5_tellForNotes 1 = .ok (.iload_n 1, 1) := by decide +kernel
theorem dX5_tellForNotes_2 : decode cX5_tellForNotes 2 = .ok (.invokevirtual 92, 3) := by decide +kernel
theorem dX5_tellForNotes_5 : decode cX5_tellForNotes 5 = .ok (.ifCond .ne 6, 3) := by decide +kernel
theorem dX5_tellForNotes_8 : decode cX5_tellForNotes 8 = .ok (.bipush (-2), 2) := by decide +kernel
theorem dX5_tellForNotes_10 : decode cX5_tellForNotes 10 = .ok (.ireturn, 1) := by decide +kernel
theorem dX5_tellForNotes_11 : decode cX5_tellForNotes 11 = .ok (.aload_n 0, 1) := by decide +kernel
theorem dX5_tellForNotes_12 : decode cX5_tellForNotes 12 = .ok (.getfield 56, 3) := by decide +kernel
theorem dX5_tellForNotes_15 : decode cX5_tellForNotes 15 = .ok (.iconst 3, 1) := by decide +kernel
theorem dX5_tellForNotes_16 : decode cX5_tellForNotes 16 = .ok (.if_icmp .lt 6, 3) := by decide +kernel
theorem dX5_tellForNotes_19 : decode cX5_tellForNotes 19 = .ok (.bipush (-4), 2) := by decide +kernel
theorem dX5_tellForNotes_21 : decode cX5_tellForNotes 21 = .ok (.ireturn, 1) := by decide +kernel
theorem dX5_tellForNotes_22 : decode cX5_tellForNotes 22 = .ok (.aload_n 0, 1) := by decide +kernel
theorem dX5_tellForNotes_23 : decode cX5_tellForNotes 23 = .ok (.getfield 39, 3) := by decide +kernel
theorem dX5_tellForNotes_26 : decode cX5_tellForNotes 26 = .ok (.aload_n 0, 1) := by decide +kernel
theorem dX5_tellForNotes_27 : decode cX5_tellForNotes 27 = .ok (.getfield 56, 3) := by decide +kernel
theorem dX5_tellForNotes_30 : decode cX5_tellForNotes 30 = .ok (.iload_n 1, 1) := by decide +kernel
theorem dX5_tellForNotes_31 : decode cX5_tellForNotes 31 = .ok (.iastore, 1) := by decide +kernel
theorem dX5_tellForNotes_32 : decode cX5_tellForNotes 32 = .ok (.aload_n 0, 1) := by decide +kernel
theorem dX5_tellForNotes_33 : decode cX5_tellForNotes 33 = .ok (.dup, 1) := by decide +kernel
theorem dX5_tellForNotes_34 : decode cX5_tellForNotes 34 = .ok (.getfield 56, 3) := by decide +kernel
theorem dX5_tellForNotes_37 : decode cX5_tellForNotes 37 = .ok (.dup_x1, 1) := by decide +kernel
theorem dX5_tellForNotes_38 : decode cX5_tellForNotes 38 = .ok (.iconst 1, 1) := by decide +kernel
theorem dX5_tellForNotes_39 : decode cX5_tellForNotes 39 = .ok (.iadd, 1) := by decide +kernel
theorem dX5_tellForNotes_40 : decode cX5_tellForNotes 40 = .ok (.putfield 56, 3) := by decide +kernel
theorem dX5_tellForNotes_43 : decode cX5_tellForNotes 43 = .ok (.ireturn, 1) := by decide +kernel
theorem dX5_tearOut_0 : decode cX5_tearOut 0 = .ok (.iload_n 1, 1) := by decide +kernel
theorem dX5_tearOut_1 : decode cX5_tearOut 1 = .ok (.ifCond .lt 8, 3) := by decide +kernel
theorem dX5_tearOut_4 : decode cX5_tearOut 4 = .ok (.iload_n 1, 1) := by decide +kernel
theorem dX5_tearOut_5 : decode cX5_tearOut 5 = .ok (.iconst 3, 1) := by decide +kernel
theorem dX5_tearOut_6 : decode cX5_tearOut 6 = .ok (.if_icmp .le 6, 3) := by decide +kernel
theorem dX5_tearOut_9 : decode cX5_tearOut 9 = .ok (.bipush (-2), 2) := by decide +kernel
theorem dX5_tearOut_11 : decode cX5_tearOut 11 = .ok (.ireturn, 1) := by decide +kernel
theorem dX5_tearOut_12 : decode cX5_tearOut 12 = .ok (.aload_n 0, 1) := by decide +kernel
theorem dX5_tearOut_13 : decode cX5_tearOut 13 = .ok (.iload_n 1, 1) := by decide +kernel
theorem dX5_tearOut_14 : decode cX5_tearOut 14 = .ok (.iconst 1, 1) := by decide +kernel
theorem dX5_tearOut_15 : decode cX5_tearOut 15 = .ok (.iadd, 1) := by decide +kernel
theorem dX5_tearOut_16 : decode cX5_tearOut 16 = .ok (.invokevirtual 95, 3) := by decide +kernel
theorem dX5_tearOut_19 : decode cX5_tearOut 19 = .ok (.istore_n 2, 1) := by decide +kernel
theorem dX5_tearOut_20 : decode cX5_tearOut 20 = .ok (.iload_n 1, 1) := by decide +kernel
theorem dX5_tearOut_21 : decode cX5_tearOut 21 = .ok (.tableswitch 72 0 2 #[27, 40, 48], 27) := by decide +kernel
theorem dX5_tearOut_48 : decode cX5_tearOut 48 = .ok (.aload_n 0, 1) := by decide +kernel
theorem dX5_tearOut_49 : decode cX5_tearOut 49 = .ok (.iconst 0, 1) := by decide +kernel
theorem dX5_tearOut_50 : decode cX5_tearOut 50 = .ok (.putfield 50, 3) := by decide +kernel
theorem dX5_tearOut_53 : decode cX5_tearOut 53 = .ok (.aload_n 0, 1) := by decide +kernel
theorem dX5_tearOut_54 : decode cX5_tearOut 54 = .ok (.iconst 0, 1) := by decide +kernel
theorem dX5_tearOut_55 : decode cX5_tearOut 55 = .ok (.putfield 65, 3) := by decide +kernel
theorem dX5_tearOut_58 : decode cX5_tearOut 58 = .ok (.goto 40, 3) := by decide +kernel
theorem dX5_tearOut_61 : decode cX5_tearOut 61 = .ok (.aload_n 0, 1) := by decide +kernel
theorem dX5_tearOut_62 : decode cX5_tearOut 62 = .ok (.iconst 0, 1) := by decide +kernel
theorem dX5_tearOut_63 : decode cX5_tearOut 63 = .ok (.putfield 53, 3) := by decide +kernel
theorem dX5_tearOut_66 : decode cX5_tearOut 66 = .ok (.goto 32, 3) := by decide +kernel
theorem dX5_tearOut_69 : decode cX5_tearOut 69 = .ok (.iconst 0, 1) := by decide +kernel
theorem dX5_tearOut_70 : decode cX5_tearOut 70 = .ok (.istore_n 3, 1) := by decide +kernel
theorem dX5_tearOut_71 : decode cX5_tearOut 71 = .ok (.iload_n 3, 1) := by decide +kernel
theorem dX5_tearOut_72 : decode cX5_tearOut 72 = .ok (.bipush 7, 2) := by decide +kernel
theorem dX5_tearOut_74 : decode cX5_tearOut 74 = .ok (.if_icmp .ge 16, 3) := by decide +kernel
theorem dX5_tearOut_77 : decode cX5_tearOut 77 = .ok (.aload_n 0, 1) := by decide +kernel
theorem dX5_tearOut_78 : decode cX5_tearOut 78 = .ok (.getfield 24, 3) := by decide +kernel
theorem dX5_tearOut_81 : decode cX5_tearOut 81 = .ok (.iload_n 3, 1) := by decide +kernel
theorem dX5_tearOut_82 : decode cX5_tearOut 82 = .ok (.iconst (-1), 1) := by decide +kernel
theorem dX5_tearOut_83 : decode cX5_tearOut 83 = .ok (.iastore, 1) := by decide +kernel
theorem dX5_tearOut_84 : decode cX5_tearOut 84 = .ok (.iinc 3 1, 3) := by decide +kernel
theorem dX5_tearOut_87 : decode cX5_tearOut 87 = .ok (.goto (-16), 3) := by decide +kernel
theorem dX5_tearOut_90 : decode cX5_tearOut 90 = .ok (.goto 8, 3) := by decide +kernel
theorem dX5_tearOut_93 : decode cX5_tearOut 93 = .ok (.aload_n 0, 1) := by decide +kernel
theorem dX5_tearOut_94 : decode cX5_tearOut 94 = .ok (.iconst 0, 1) := by decide +kernel
theorem dX5_tearOut_95 : decode cX5_tearOut 95 = .ok (.putfield 56, 3) := by decide +kernel
theorem dX5_tearOut_98 : decode cX5_tearOut 98 = .ok (.iload_n 2, 1) := by decide +kernel
theorem dX5_tearOut_99 : decode cX5_tearOut 99 = .ok (.ireturn, 1) := by decide +kernel
theorem dX5_tellItem_0 : decode cX5_tellItem 0 = .ok (.iload_n 1, 1) := by decide +kernel
theorem dX5_tellItem_1 : decode cX5_tellItem 1 = .ok (.bipush 10, 2) := by decide +kernel
theorem dX5_tellItem_3 : decode cX5_tellItem 3 = .ok (.idiv, 1) := by decide +kernel
theorem dX5_tellItem_4 : decode cX5_tellItem 4 = .ok (.bipush 10, 2) := by decide +kernel
theorem dX5_tellItem_6 : decode cX5_tellItem 6 = .ok (.irem, 1) := by decide +kernel
theorem dX5_tellItem_7 : decode cX5_tellItem 7 = .ok (.istore_n 2, 1) := by decide +kernel
theorem dX5_tellItem_8 : decode cX5_tellItem 8 = .ok (.iload_n 1, 1) := by decide +kernel
theorem dX5_tellItem_9 : decode cX5_tellItem 9 = .ok (.bipush 10, 2) := by decide +kernel
theorem dX5_tellItem_11 : decode cX5_tellItem 11 = .ok (.irem, 1) := by decide +kernel
theorem dX5_tellItem_12 : decode cX5_tellItem 12 = .ok (.istore_n 3, 1) := by decide +kernel
theorem dX5_tellItem_13 : decode cX5_tellItem 13 = .ok (.iload_n 1, 1) := by decide +kernel
theorem dX5_tellItem_14 : decode cX5_tellItem 14 = .ok (.bipush 100, 2) := by decide +kernel
theorem dX5_tellItem_16 : decode cX5_tellItem 16 = .ok (.idiv, 1) := by decide +kernel
theorem dX5_tellItem_17 : decode cX5_tellItem 17 = .ok (.tableswitch 95 0 6 #[43, 49, 56, 65, 74, 81, 88], 43) := by decide +kernel
theorem dX5_tellItem_60 : decode cX5_tellItem 60 = .ok (.aload_n 0, 1) := by decide +kernel
theorem dX5_tellItem_61 : decode cX5_tellItem 61 = .ok (.iload_n 2, 1) := by decide +kernel
theorem dX5_tellItem_62 : decode cX5_tellItem 62 = .ok (.invokevirtual 98, 3) := by decide +kernel
theorem dX5_tellItem_65 : decode cX5_tellItem 65 = .ok (.ireturn, 1) := by decide +kernel
theorem dX5_tellItem_66 : decode cX5_tellItem 66 = .ok (.aload_n 0, 1) := by decide +kernel
theorem dX5_tellItem_67 : decode cX5_tellItem 67 = .ok (.iload_n 2, 1) := by decide +kernel
theorem dX5_tellItem_68 : decode cX5_tellItem 68 = .ok (.iload_n 3, 1) := by decide +kernel
theorem dX5_tellItem_69 : decode cX5_tellItem 69 = .ok (.invokevirtual 101, 3) := by decide +kernel
theorem dX5_tellItem_72 : decode cX5_tellItem 72 = .ok (.ireturn, 1) := by decide +kernel
theorem dX5_tellItem_73 : decode cX5_tellItem 73 = .ok (.aload_n 0, 1) := by decide +kernel
theorem dX5_tellItem_74 : decode cX5_tellItem 74 = .ok (.iload_n 2, 1) := by decide +kernel
theorem dX5_tellItem_75 : decode cX5_tellItem 75 = .ok (.iconst 0, 1) := by decide +kernel
theorem dX5_tellItem_76 : decode cX5_tellItem 76 = .ok (.iload_n 3, 1) := by decide +kernel
theorem dX5_tellItem_77 : decode cX5_tellItem 77 = .ok (.iconst 1, 1) := by decide +kernel
theorem dX5_tellItem_78 : decode cX5_tellItem 78 = .ok (.invokevirtual 105, 3) := by decide +kernel
theorem dX5_tellItem_81 : decode cX5_tellItem 81 = .ok (.ireturn, 1) := by decide +kernel
theorem dX5_tellItem_82 : decode cX5_tellItem 82 = .ok (.aload_n 0, 1) := by decide +kernel
theorem dX5_tellItem_83 : decode cX5_tellItem 83 = .ok (.iload_n 2, 1) := by decide +kernel
theorem dX5_tellItem_84 : decode cX5_tellItem 84 = .ok (.iconst 1, 1) := by decide +kernel
theorem dX5_tellItem_85 : decode cX5_tellItem 85 = .ok (.iload_n 3, 1) := by decide +kernel
theorem dX5_tellItem_86 : decode cX5_tellItem 86 = .ok (.iconst 1, 1) := by decide +kernel
theorem dX5_tellItem_87 : decode cX5_tellItem 87 = .ok (.invokevirtual 105, 3) := by decide +kernel
theorem dX5_tellItem_90 : decode cX5_tellItem 90 = .ok (.ireturn, 1) := by decide +kernel
theorem dX5_tellItem_91 : decode cX5_tellItem 91 = .ok (.aload_n 0, 1) := by decide +kernel
theorem dX5_tellItem_92 : decode cX5_tellItem 92 = .ok (.iload_n 2, 1) := by decide +kernel
theorem dX5_tellItem_93 : decode cX5_tellItem 93 = .ok (.iload_n 3, 1) := by decide +kernel
theorem dX5_tellItem_94 : decode cX5_tellItem 94 = .ok (.invokevirtual 109, 3) := by decide +kernel
theorem dX5_tellItem_97 : decode cX5_tellItem 97 = .ok (.ireturn, 1) := by decide +kernel
theorem dX5_tellItem_98 : decode cX5_tellItem 98 = .ok (.aload_n 0, 1) := by decide +kernel
theorem dX5_tellItem_99 : decode cX5_tellItem 99 = .ok (.iload_n 2, 1) := by decide +kernel
theorem dX5_tellItem_100 : decode cX5_tellItem 100 = .ok (.iload_n 3, 1) := by decide +kernel
theorem dX5_tellItem_101 : decode cX5_tellItem 101 = .ok (.invokevirtual 112, 3) := by decide +kernel
theorem dX5_tellItem_104 : decode cX5_tellItem 104 = .ok (.ireturn, 1) := by decide +kernel
theorem dX5_tellItem_105 : decode cX5_tellItem 105 = .ok (.aload_n 0, 1) := by decide +kernel
theorem dX5_tellItem_106 : decode cX5_tellItem 106 = .ok (.iload_n 2, 1) := by decide +kernel
theorem dX5_tellItem_107 : decode cX5_tellItem 107 = .ok (.iload_n 3, 1) := by decide +kernel
theorem dX5_tellItem_108 : decode cX5_tellItem 108 = .ok (.invokevirtual 115, 3) := by decide +kernel
theorem dX5_tellItem_111 : decode cX5_tellItem 111 = .ok (.ireturn, 1) := by decide +kernel
theorem dX5_tellItem_112 : decode cX5_tellItem 112 = .ok (.bipush (-2), 2) := by decide +kernel
theorem dX5_tellItem_114 : decode cX5_tellItem 114 = .ok (.ireturn, 1) := by decide +kernel
theorem dX5_notedOn_0 : decode cX5_notedOn 0 = .ok (.iconst 0, 1) := by decide +kernel
theorem dX5_notedOn_1 : decode cX5_notedOn 1 = .ok (.istore_n 2, 1) := by decide +kernel
theorem dX5_notedOn_2 : decode cX5_notedOn 2 = .ok (.iconst 0, 1) := by decide +kernel
theorem dX5_notedOn_3 : decode cX5_notedOn 3 = .ok (.istore_n 3, 1) := by decide +kernel
theorem dX5_notedOn_4 : decode cX5_notedOn 4 = .ok (.iload_n 3, 1) := by decide +kernel
theorem dX5_notedOn_5 : decode cX5_notedOn 5 = .ok (.aload_n 0, 1) := by decide +kernel
theorem dX5_notedOn_6 : decode cX5_notedOn 6 = .ok (.getfield 50, 3) := by decide +kernel
theorem dX5_notedOn_9 : decode cX5_notedOn 9 = .ok (.if_icmp .ge 30, 3) := by decide +kernel
theorem dX5_notedOn_12 : decode cX5_notedOn 12 = .ok (.aload_n 0, 1) := by decide +kernel
theorem dX5_notedOn_13 : decode cX5_notedOn 13 = .ok (.getfield 27, 3) := by decide +kernel
theorem dX5_notedOn_16 : decode cX5_notedOn 16 = .ok (.iload_n 3, 1) := by decide +kernel
theorem dX5_notedOn_17 : decode cX5_notedOn 17 = .ok (.iaload, 1) := by decide +kernel
theorem dX5_notedOn_18 : decode cX5_notedOn 18 = .ok (.iload_n 1, 1) := by decide +kernel
theorem dX5_notedOn_19 : decode cX5_notedOn 19 = .ok (.if_icmp .ne 14, 3) := by decide +kernel
theorem dX5_notedOn_22 : decode cX5_notedOn 22 = .ok (.iload_n 2, 1) := by decide +kernel
theorem dX5_notedOn_23 : decode cX5_notedOn 23 = .ok (.iconst 1, 1) := by decide +kernel
theorem dX5_notedOn_24 : decode cX5_notedOn 24 = .ok (.aload_n 0, 1) := by decide +kernel
theorem dX5_notedOn_25 : decode cX5_notedOn 25 = .ok (.getfield 30, 3) := by decide +kernel
theorem dX5_notedOn_28 : decode cX5_notedOn 28 = .ok (.iload_n 3, 1) := by decide +kernel
theorem dX5_notedOn_29 : decode cX5_notedOn 29 = .ok (.iaload, 1) := by decide +kernel
theorem dX5_notedOn_30 : decode cX5_notedOn 30 = .ok (.ishl, 1) := by decide +kernel
theorem dX5_notedOn_31 : decode cX5_notedOn 31 = .ok (.ior, 1) := by decide +kernel
theorem dX5_notedOn_32 : decode cX5_notedOn 32 = .ok (.istore_n 2, 1) := by decide +kernel
theorem dX5_notedOn_33 : decode cX5_notedOn 33 = .ok (.iinc 3 1, 3) := by decide +kernel
theorem dX5_notedOn_36 : decode cX5_notedOn 36 = .ok (.goto (-32), 3) := by decide +kernel
theorem dX5_notedOn_39 : decode cX5_notedOn 39 = .ok (.iload_n 2, 1) := by decide +kernel
theorem dX5_notedOn_40 : decode cX5_notedOn 40 = .ok (.ireturn, 1) := by decide +kernel
theorem dX5_taughtBy_0 : decode cX5_taughtBy 0 = .ok (.iconst 0, 1) := by decide +kernel
theorem dX5_taughtBy_1 : decode cX5_taughtBy 1 = .ok (.istore_n 2, 1) := by decide +kernel
theorem dX5_taughtBy_2 : decode cX5_taughtBy 2 = .ok (.iconst 0, 1) := by decide +kernel
theorem dX5_taughtBy_3 : decode cX5_taughtBy 3 = .ok (.istore_n 3, 1) := by decide +kernel
theorem dX5_taughtBy_4 : decode cX5_taughtBy 4 = .ok (.iload_n 3, 1) := by decide +kernel
theorem dX5_taughtBy_5 : decode cX5_taughtBy 5 = .ok (.aload_n 0, 1) := by decide +kernel
theorem dX5_taughtBy_6 : decode cX5_taughtBy 6 = .ok (.getfield 46, 3) := by decide +kernel
theorem dX5_taughtBy_9 : decode cX5_taughtBy 9 = .ok (.if_icmp .ge 26, 3) := by decide +kernel
theorem dX5_taughtBy_12 : decode cX5_taughtBy 12 = .ok (.iload_n 1, 1) := by decide +kernel
theorem dX5_taughtBy_13 : decode cX5_taughtBy 13 = .ok (.iload_n 3, 1) := by decide +kernel
theorem dX5_taughtBy_14 : decode cX5_taughtBy 14 = .ok (.ishr, 1) := by decide +kernel
theorem dX5_taughtBy_15 : decode cX5_taughtBy 15 = .ok (.iconst 1, 1) := by decide +kernel
theorem dX5_taughtBy_16 : decode cX5_taughtBy 16 = .ok (.iand, 1) := by decide +kernel
theorem dX5_taughtBy_17 : decode cX5_taughtBy 17 = .ok (.ifCond .eq 12, 3) := by decide +kernel
theorem dX5_taughtBy_20 : decode cX5_taughtBy 20 = .ok (.iload_n 2, 1) := by decide +kernel
theorem dX5_taughtBy_21 : decode cX5_taughtBy 21 = .ok (.aload_n 0, 1) := by decide +kernel
theorem dX5_taughtBy_22 : decode cX5_taughtBy 22 = .ok (.getfield 18, 3) := by decide +kernel
theorem dX5_taughtBy_25 : decode cX5_taughtBy 25 = .ok (.iload_n 3, 1) := by decide +kernel
theorem dX5_taughtBy_26 : decode cX5_taughtBy 26 = .ok (.iaload, 1) := by decide +kernel
theorem dX5_taughtBy_27 : decode cX5_taughtBy 27 = .ok (.ior, 1) := by decide +kernel
theorem dX5_taughtBy_28 : decode cX5_taughtBy 28 = .ok (.istore_n 2, 1) := by decide +kernel
theorem dX5_taughtBy_29 : decode cX5_taughtBy 29 = .ok (.iinc 3 1, 3) := by decide +kernel
theorem dX5_taughtBy_32 : decode cX5_taughtBy 32 = .ok (.goto (-28), 3) := by decide +kernel
theorem dX5_taughtBy_35 : decode cX5_taughtBy 35 = .ok (.iload_n 2, 1) := by decide +kernel
theorem dX5_taughtBy_36 : decode cX5_taughtBy 36 = .ok (.ireturn, 1) := by decide +kernel
theorem dX5_countOfRow_0 : decode cX5_countOfRow 0 = .ok (.iload_n 1, 1) := by decide +kernel
theorem dX5_countOfRow_1 : decode cX5_countOfRow 1 = .ok (.tableswitch 73 0 6 #[43, 48, 53, 58, 63, 73, 68], 43) := by decide +kernel
theorem dX5_countOfRow_44 : decode cX5_countOfRow 44 = .ok (.aload_n 0, 1) := by decide +kernel
theorem dX5_countOfRow_45 : decode cX5_countOfRow 45 = .ok (.getfield 46, 3) := by decide +kernel
theorem dX5_countOfRow_48 : decode cX5_countOfRow 48 = .ok (.ireturn, 1) := by decide +kernel
theorem dX5_countOfRow_49 : decode cX5_countOfRow 49 = .ok (.aload_n 0, 1) := by decide +kernel
theorem dX5_countOfRow_50 : decode cX5_countOfRow 50 = .ok (.getfield 50, 3) := by decide +kernel
theorem dX5_countOfRow_53 : decode cX5_countOfRow 53 = .ok (.ireturn, 1) := by decide +kernel
theorem dX5_countOfRow_54 : decode cX5_countOfRow 54 = .ok (.aload_n 0, 1) := by decide +kernel
theorem dX5_countOfRow_55 : decode cX5_countOfRow 55 = .ok (.getfield 53, 3) := by decide +kernel
theorem dX5_countOfRow_58 : decode cX5_countOfRow 58 = .ok (.ireturn, 1) := by decide +kernel
theorem dX5_countOfRow_59 : decode cX5_countOfRow 59 = .ok (.aload_n 0, 1) := by decide +kernel
theorem dX5_countOfRow_60 : decode cX5_countOfRow 60 = .ok (.invokevirtual 118, 3) := by decide +kernel
theorem dX5_countOfRow_63 : decode cX5_countOfRow 63 = .ok (.ireturn, 1) := by decide +kernel
theorem dX5_countOfRow_64 : decode cX5_countOfRow 64 = .ok (.aload_n 0, 1) := by decide +kernel
theorem dX5_countOfRow_65 : decode cX5_countOfRow 65 = .ok (.getfield 56, 3) := by decide +kernel
theorem dX5_countOfRow_68 : decode cX5_countOfRow 68 = .ok (.ireturn, 1) := by decide +kernel
theorem dX5_countOfRow_69 : decode cX5_countOfRow 69 = .ok (.aload_n 0, 1) := by decide +kernel
theorem dX5_countOfRow_70 : decode cX5_countOfRow 70 = .ok (.getfield 59, 3) := by decide +kernel
theorem dX5_countOfRow_73 : decode cX5_countOfRow 73 = .ok (.ireturn, 1) := by decide +kernel
theorem dX5_countOfRow_74 : decode cX5_countOfRow 74 = .ok (.bipush (-2), 2) := by decide +kernel
theorem dX5_countOfRow_76 : decode cX5_countOfRow 76 = .ok (.ireturn, 1) := by decide +kernel
theorem dX5_toldInDiary_0 : decode cX5_toldInDiary 0 = .ok (.iconst 0, 1) := by decide +kernel
theorem dX5_toldInDiary_1 : decode cX5_toldInDiary 1 = .ok (.istore_n 1, 1) := by decide +kernel
theorem dX5_toldInDiary_2 : decode cX5_toldInDiary 2 = .ok (.iconst 0, 1) := by decide +kernel
theorem dX5_toldInDiary_3 : decode cX5_toldInDiary 3 = .ok (.istore_n 2, 1) := by decide +kernel
theorem dX5_toldInDiary_4 : decode cX5_toldInDiary 4 = .ok (.iload_n 2, 1) := by decide +kernel
theorem dX5_toldInDiary_5 : decode cX5_toldInDiary 5 = .ok (.aload_n 0, 1) := by decide +kernel
theorem dX5_toldInDiary_6 : decode cX5_toldInDiary 6 = .ok (.getfield 46, 3) := by decide +kernel
theorem dX5_toldInDiary_9 : decode cX5_toldInDiary 9 = .ok (.if_icmp .ge 22, 3) := by decide +kernel
theorem dX5_toldInDiary_12 : decode cX5_toldInDiary 12 = .ok (.aload_n 0, 1) := by decide +kernel
theorem dX5_toldInDiary_13 : decode cX5_toldInDiary 13 = .ok (.getfield 24, 3) := by decide +kernel
theorem dX5_toldInDiary_16 : decode cX5_toldInDiary 16 = .ok (.iload_n 2, 1) := by decide +kernel
theorem dX5_toldInDiary_17 : decode cX5_toldInDiary 17 = .ok (.iaload, 1) := by decide +kernel
theorem dX5_toldInDiary_18 : decode cX5_toldInDiary 18 = .ok (.iconst (-1), 1) := by decide +kernel
theorem dX5_toldInDiary_19 : decode cX5_toldInDiary 19 = .ok (.if_icmp .eq 6, 3) := by decide +kernel
theorem dX5_toldInDiary_22 : decode cX5_toldInDiary 22 = .ok (.iinc 1 1, 3) := by decide +kernel
theorem dX5_toldInDiary_25 : decode cX5_toldInDiary 25 = .ok (.iinc 2 1, 3) := by decide +kernel
theorem dX5_toldInDiary_28 : decode cX5_toldInDiary 28 = .ok (.goto (-24), 3) := by decide +kernel
theorem dX5_toldInDiary_31 : decode cX5_toldInDiary 31 = .ok (.iload_n 1, 1) := by decide +kernel
theorem dX5_toldInDiary_32 : decode cX5_toldInDiary 32 = .ok (.ireturn, 1) := by decide +kernel
theorem dX5_digestOfDays_0 : decode cX5_digestOfDays 0 = .ok (.lload_n 1, 1) := by decide +kernel
theorem dX5_digestOfDays_1 : decode cX5_digestOfDays 1 = .ok (.lstore_n 3, 1) := by decide +kernel
theorem dX5_digestOfDays_2 : decode cX5_digestOfDays 2 = .ok (.iconst 0, 1) := by decide +kernel
theorem dX5_digestOfDays_3 : decode cX5_digestOfDays 3 = .ok (.istore 5, 2) := by decide +kernel
theorem dX5_digestOfDays_5 : decode cX5_digestOfDays 5 = .ok (.iload 5, 2) := by decide +kernel
theorem dX5_digestOfDays_7 : decode cX5_digestOfDays 7 = .ok (.aload_n 0, 1) := by decide +kernel
theorem dX5_digestOfDays_8 : decode cX5_digestOfDays 8 = .ok (.getfield 46, 3) := by decide +kernel
theorem dX5_digestOfDays_11 : decode cX5_digestOfDays 11 = .ok (.if_icmp .ge 69, 3) := by decide +kernel
theorem dX5_digestOfDays_14 : decode cX5_digestOfDays 14 = .ok (.ldc2_w 121, 3) := by decide +kernel
theorem dX5_digestOfDays_17 : decode cX5_digestOfDays 17 = .ok (.lload_n 3, 1) := by decide +kernel
theorem dX5_digestOfDays_18 : decode cX5_digestOfDays 18 = .ok (.lmul, 1) := by decide +kernel
theorem dX5_digestOfDays_19 : decode cX5_digestOfDays 19 = .ok (.aload_n 0, 1) := by decide +kernel
theorem dX5_digestOfDays_20 : decode cX5_digestOfDays 20 = .ok (.getfield 9, 3) := by decide +kernel
theorem dX5_digestOfDays_23 : decode cX5_digestOfDays 23 = .ok (.iload 5, 2) := by decide +kernel
theorem dX5_digestOfDays_25 : decode cX5_digestOfDays 25 = .ok (.iaload, 1) := by decide +kernel
theorem dX5_digestOfDays_26 : decode cX5_digestOfDays 26 = .ok (.i2l, 1) := by decide +kernel
theorem dX5_digestOfDays_27 : decode cX5_digestOfDays 27 = .ok (.ladd, 1) := by decide +kernel
theorem dX5_digestOfDays_28 : decode cX5_digestOfDays 28 = .ok (.lstore_n 3, 1) := by decide +kernel
theorem dX5_digestOfDays_29 : decode cX5_digestOfDays 29 = .ok (.ldc2_w 121, 3) := by decide +kernel
theorem dX5_digestOfDays_32 : decode cX5_digestOfDays 32 = .ok (.lload_n 3, 1) := by decide +kernel
theorem dX5_digestOfDays_33 : decode cX5_digestOfDays 33 = .ok (.lmul, 1) := by decide +kernel
theorem dX5_digestOfDays_34 : decode cX5_digestOfDays 34 = .ok (.aload_n 0, 1) := by decide +kernel
theorem dX5_digestOfDays_35 : decode cX5_digestOfDays 35 = .ok (.getfield 15, 3) := by decide +kernel
theorem dX5_digestOfDays_38 : decode cX5_digestOfDays 38 = .ok (.iload 5, 2) := by decide +kernel
theorem dX5_digestOfDays_40 : decode cX5_digestOfDays 40 = .ok (.iaload, 1) := by decide +kernel
theorem dX5_digestOfDays_41 : decode cX5_digestOfDays 41 = .ok (.i2l, 1) := by decide +kernel
theorem dX5_digestOfDays_42 : decode cX5_digestOfDays 42 = .ok (.ladd, 1) := by decide +kernel
theorem dX5_digestOfDays_43 : decode cX5_digestOfDays 43 = .ok (.lstore_n 3, 1) := by decide +kernel
theorem dX5_digestOfDays_44 : decode cX5_digestOfDays 44 = .ok (.ldc2_w 121, 3) := by decide +kernel
theorem dX5_digestOfDays_47 : decode cX5_digestOfDays 47 = .ok (.lload_n 3, 1) := by decide +kernel
theorem dX5_digestOfDays_48 : decode cX5_digestOfDays 48 = .ok (.lmul, 1) := by decide +kernel
theorem dX5_digestOfDays_49 : decode cX5_digestOfDays 49 = .ok (.aload_n 0, 1) := by decide +kernel
theorem dX5_digestOfDays_50 : decode cX5_digestOfDays 50 = .ok (.getfield 18, 3) := by decide +kernel
theorem dX5_digestOfDays_53 : decode cX5_digestOfDays 53 = .ok (.iload 5, 2) := by decide +kernel
theorem dX5_digestOfDays_55 : decode cX5_digestOfDays 55 = .ok (.iaload, 1) := by decide +kernel
theorem dX5_digestOfDays_56 : decode cX5_digestOfDays 56 = .ok (.i2l, 1) := by decide +kernel
theorem dX5_digestOfDays_57 : decode cX5_digestOfDays 57 = .ok (.ladd, 1) := by decide +kernel
theorem dX5_digestOfDays_58 : decode cX5_digestOfDays 58 = .ok (.lstore_n 3, 1) := by decide +kernel
theorem dX5_digestOfDays_59 : decode cX5_digestOfDays 59 = .ok (.ldc2_w 121, 3) := by decide +kernel
theorem dX5_digestOfDays_62 : decode cX5_digestOfDays 62 = .ok (.lload_n 3, 1) := by decide +kernel
theorem dX5_digestOfDays_63 : decode cX5_digestOfDays 63 = .ok (.lmul, 1) := by decide +kernel
theorem dX5_digestOfDays_64 : decode cX5_digestOfDays 64 = .ok (.aload_n 0, 1) := by decide +kernel
theorem dX5_digestOfDays_65 : decode cX5_digestOfDays 65 = .ok (.getfield 21, 3) := by decide +kernel
theorem dX5_digestOfDays_68 : decode cX5_digestOfDays 68 = .ok (.iload 5, 2) := by decide +kernel
theorem dX5_digestOfDays_70 : decode cX5_digestOfDays 70 = .ok (.iaload, 1) := by decide +kernel
theorem dX5_digestOfDays_71 : decode cX5_digestOfDays 71 = .ok (.i2l, 1) := by decide +kernel
theorem dX5_digestOfDays_72 : decode cX5_digestOfDays 72 = .ok (.ladd, 1) := by decide +kernel
theorem dX5_digestOfDays_73 : decode cX5_digestOfDays 73 = .ok (.lstore_n 3, 1) := by decide +kernel
theorem dX5_digestOfDays_74 : decode cX5_digestOfDays 74 = .ok (.iinc 5 1, 3) := by decide +kernel
theorem dX5_digestOfDays_77 : decode cX5_digestOfDays 77 = .ok (.goto (-72), 3) := by decide +kernel
theorem dX5_digestOfDays_80 : decode cX5_digestOfDays 80 = .ok (.lload_n 3, 1) := by decide +kernel
theorem dX5_digestOfDays_81 : decode cX5_digestOfDays 81 = .ok (.lreturn, 1) := by decide +kernel
theorem dX5_digestOfRows_0 : decode cX5_digestOfRows 0 = .ok (.lload_n 1, 1) := by decide +kernel
theorem dX5_digestOfRows_1 : decode cX5_digestOfRows 1 = .ok (.lstore_n 3, 1) := by decide +kernel
theorem dX5_digestOfRows_2 : decode cX5_digestOfRows 2 = .ok (.iconst 0, 1) := by decide +kernel
theorem dX5_digestOfRows_3 : decode cX5_digestOfRows 3 = .ok (.istore 5, 2) := by decide +kernel
theorem dX5_digestOfRows_5 : decode cX5_digestOfRows 5 = .ok (.iload 5, 2) := by decide +kernel
theorem dX5_digestOfRows_7 : decode cX5_digestOfRows 7 = .ok (.aload_n 0, 1) := by decide +kernel
theorem dX5_digestOfRows_8 : decode cX5_digestOfRows 8 = .ok (.getfield 50, 3) := by decide +kernel
theorem dX5_digestOfRows_11 : decode cX5_digestOfRows 11 = .ok (.if_icmp .ge 39, 3) := by decide +kernel
theorem dX5_digestOfRows_14 : decode cX5_digestOfRows 14 = .ok (.ldc2_w 121, 3) := by decide +kernel
theorem dX5_digestOfRows_17 : decode cX5_digestOfRows 17 = .ok (.lload_n 3, 1) := by decide +kernel
theorem dX5_digestOfRows_18 : decode cX5_digestOfRows 18 = .ok (.lmul, 1) := by decide +kernel
theorem dX5_digestOfRows_19 : decode cX5_digestOfRows 19 = .ok (.aload_n 0, 1) := by decide +kernel
theorem dX5_digestOfRows_20 : decode cX5_digestOfRows 20 = .ok (.getfield 27, 3) := by decide +kernel
theorem dX5_digestOfRows_23 : decode cX5_digestOfRows 23 = .ok (.iload 5, 2) := by decide +kernel
theorem dX5_digestOfRows_25 : decode cX5_digestOfRows 25 = .ok (.iaload, 1) := by decide +kernel
theorem dX5_digestOfRows_26 : decode cX5_digestOfRows 26 = .ok (.i2l, 1) := by decide +kernel
theorem dX5_digestOfRows_27 : decode cX5_digestOfRows 27 = .ok (.ladd, 1) := by decide +kernel
theorem dX5_digestOfRows_28 : decode cX5_digestOfRows 28 = .ok (.lstore_n 3, 1) := by decide +kernel
theorem dX5_digestOfRows_29 : decode cX5_digestOfRows 29 = .ok (.ldc2_w 121, 3) := by decide +kernel
theorem dX5_digestOfRows_32 : decode cX5_digestOfRows 32 = .ok (.lload_n 3, 1) := by decide +kernel
theorem dX5_digestOfRows_33 : decode cX5_digestOfRows 33 = .ok (.lmul, 1) := by decide +kernel
theorem dX5_digestOfRows_34 : decode cX5_digestOfRows 34 = .ok (.aload_n 0, 1) := by decide +kernel
theorem dX5_digestOfRows_35 : decode cX5_digestOfRows 35 = .ok (.getfield 30, 3) := by decide +kernel
theorem dX5_digestOfRows_38 : decode cX5_digestOfRows 38 = .ok (.iload 5, 2) := by decide +kernel
theorem dX5_digestOfRows_40 : decode cX5_digestOfRows 40 = .ok (.iaload, 1) := by decide +kernel
theorem dX5_digestOfRows_41 : decode cX5_digestOfRows 41 = .ok (.i2l, 1) := by decide +kernel
theorem dX5_digestOfRows_42 : decode cX5_digestOfRows 42 = .ok (.ladd, 1) := by decide +kernel
theorem dX5_digestOfRows_43 : decode cX5_digestOfRows 43 = .ok (.lstore_n 3, 1) := by decide +kernel
theorem dX5_digestOfRows_44 : decode cX5_digestOfRows 44 = .ok (.iinc 5 1, 3) := by decide +kernel
theorem dX5_digestOfRows_47 : decode cX5_digestOfRows 47 = .ok (.goto (-42), 3) := by decide +kernel
theorem dX5_digestOfRows_50 : decode cX5_digestOfRows 50 = .ok (.iconst 0, 1) := by decide +kernel
theorem dX5_digestOfRows_51 : decode cX5_digestOfRows 51 = .ok (.istore 5, 2) := by decide +kernel
theorem dX5_digestOfRows_53 : decode cX5_digestOfRows 53 = .ok (.iload 5, 2) := by decide +kernel
theorem dX5_digestOfRows_55 : decode cX5_digestOfRows 55 = .ok (.aload_n 0, 1) := by decide +kernel
theorem dX5_digestOfRows_56 : decode cX5_digestOfRows 56 = .ok (.getfield 53, 3) := by decide +kernel
theorem dX5_digestOfRows_59 : decode cX5_digestOfRows 59 = .ok (.if_icmp .ge 39, 3) := by decide +kernel
theorem dX5_digestOfRows_62 : decode cX5_digestOfRows 62 = .ok (.ldc2_w 121, 3) := by decide +kernel
theorem dX5_digestOfRows_65 : decode cX5_digestOfRows 65 = .ok (.lload_n 3, 1) := by decide +kernel
theorem dX5_digestOfRows_66 : decode cX5_digestOfRows 66 = .ok (.lmul, 1) := by decide +kernel
theorem dX5_digestOfRows_67 : decode cX5_digestOfRows 67 = .ok (.aload_n 0, 1) := by decide +kernel
theorem dX5_digestOfRows_68 : decode cX5_digestOfRows 68 = .ok (.getfield 33, 3) := by decide +kernel
theorem dX5_digestOfRows_71 : decode cX5_digestOfRows 71 = .ok (.iload 5, 2) := by decide +kernel
theorem dX5_digestOfRows_73 : decode cX5_digestOfRows 73 = .ok (.iaload, 1) := by decide +kernel
theorem dX5_digestOfRows_74 : decode cX5_digestOfRows 74 = .ok (.i2l, 1) := by decide +kernel
theorem dX5_digestOfRows_75 : decode cX5_digestOfRows 75 = .ok (.ladd, 1) := by decide +kernel
theorem dX5_digestOfRows_76 : decode cX5_digestOfRows 76 = .ok (.lstore_n 3, 1) := by decide +kernel
theorem dX5_digestOfRows_77 : decode cX5_digestOfRows 77 = .ok (.ldc2_w 121, 3) := by decide +kernel
theorem dX5_digestOfRows_80 : decode cX5_digestOfRows 80 = .ok (.lload_n 3, 1) := by decide +kernel
theorem dX5_digestOfRows_81 : decode cX5_digestOfRows 81 = .ok (.lmul, 1) := by decide +kernel
theorem dX5_digestOfRows_82 : decode cX5_digestOfRows 82 = .ok (.aload_n 0, 1) := by decide +kernel
theorem dX5_digestOfRows_83 : decode cX5_digestOfRows 83 = .ok (.getfield 36, 3) := by decide +kernel
theorem dX5_digestOfRows_86 : decode cX5_digestOfRows 86 = .ok (.iload 5, 2) := by decide +kernel
theorem dX5_digestOfRows_88 : decode cX5_digestOfRows 88 = .ok (.iaload, 1) := by decide +kernel
theorem dX5_digestOfRows_89 : decode cX5_digestOfRows 89 = .ok (.i2l, 1) := by decide +kernel
theorem dX5_digestOfRows_90 : decode cX5_digestOfRows 90 = .ok (.ladd, 1) := by decide +kernel
theorem dX5_digestOfRows_91 : decode cX5_digestOfRows 91 = .ok (.lstore_n 3, 1) := by decide +kernel
theorem dX5_digestOfRows_92 : decode cX5_digestOfRows 92 = .ok (.iinc 5 1, 3) := by decide +kernel
theorem dX5_digestOfRows_95 : decode cX5_digestOfRows 95 = .ok (.goto (-42), 3) := by decide +kernel
theorem dX5_digestOfRows_98 : decode cX5_digestOfRows 98 = .ok (.iconst 0, 1) := by decide +kernel
theorem dX5_digestOfRows_99 : decode cX5_digestOfRows 99 = .ok (.istore 5, 2) := by decide +kernel
theorem dX5_digestOfRows_101 : decode cX5_digestOfRows 101 = .ok (.iload 5, 2) := by decide +kernel
theorem dX5_digestOfRows_103 : decode cX5_digestOfRows 103 = .ok (.aload_n 0, 1) := by decide +kernel
theorem dX5_digestOfRows_104 : decode cX5_digestOfRows 104 = .ok (.getfield 46, 3) := by decide +kernel
theorem dX5_digestOfRows_107 : decode cX5_digestOfRows 107 = .ok (.if_icmp .ge 24, 3) := by decide +kernel
theorem dX5_digestOfRows_110 : decode cX5_digestOfRows 110 = .ok (.ldc2_w 121, 3) := by decide +kernel
theorem dX5_digestOfRows_113 : decode cX5_digestOfRows 113 = .ok (.lload_n 3, 1) := by decide +kernel
theorem dX5_digestOfRows_114 : decode cX5_digestOfRows 114 = .ok (.lmul, 1) := by decide +kernel
theorem dX5_digestOfRows_115 : decode cX5_digestOfRows 115 = .ok (.aload_n 0, 1) := by decide +kernel
theorem dX5_digestOfRows_116 : decode cX5_digestOfRows 116 = .ok (.getfield 24, 3) := by decide +kernel
theorem dX5_digestOfRows_119 : decode cX5_digestOfRows 119 = .ok (.iload 5, 2) := by decide +kernel
theorem dX5_digestOfRows_121 : decode cX5_digestOfRows 121 = .ok (.iaload, 1) := by decide +kernel
theorem dX5_digestOfRows_122 : decode cX5_digestOfRows 122 = .ok (.i2l, 1) := by decide +kernel
theorem dX5_digestOfRows_123 : decode cX5_digestOfRows 123 = .ok (.ladd, 1) := by decide +kernel
theorem dX5_digestOfRows_124 : decode cX5_digestOfRows 124 = .ok (.lstore_n 3, 1) := by decide +kernel
theorem dX5_digestOfRows_125 : decode cX5_digestOfRows 125 = .ok (.iinc 5 1, 3) := by decide +kernel
theorem dX5_digestOfRows_128 : decode cX5_digestOfRows 128 = .ok (.goto (-27), 3) := by decide +kernel
theorem dX5_digestOfRows_131 : decode cX5_digestOfRows 131 = .ok (.iconst 0, 1) := by decide +kernel
theorem dX5_digestOfRows_132 : decode cX5_digestOfRows 132 = .ok (.istore 5, 2) := by decide +kernel
theorem dX5_digestOfRows_134 : decode cX5_digestOfRows 134 = .ok (.iload 5, 2) := by decide +kernel
theorem dX5_digestOfRows_136 : decode cX5_digestOfRows 136 = .ok (.aload_n 0, 1) := by decide +kernel
theorem dX5_digestOfRows_137 : decode cX5_digestOfRows 137 = .ok (.getfield 56, 3) := by decide +kernel
theorem dX5_digestOfRows_140 : decode cX5_digestOfRows 140 = .ok (.if_icmp .ge 24, 3) := by decide +kernel
theorem dX5_digestOfRows_143 : decode cX5_digestOfRows 143 = .ok (.ldc2_w 121, 3) := by decide +kernel
theorem dX5_digestOfRows_146 : decode cX5_digestOfRows 146 = .ok (.lload_n 3, 1) := by decide +kernel
theorem dX5_digestOfRows_147 : decode cX5_digestOfRows 147 = .ok (.lmul, 1) := by decide +kernel
theorem dX5_digestOfRows_148 : decode cX5_digestOfRows 148 = .ok (.aload_n 0, 1) := by decide +kernel
theorem dX5_digestOfRows_149 : decode cX5_digestOfRows 149 = .ok (.getfield 39, 3) := by decide +kernel
theorem dX5_digestOfRows_152 : decode cX5_digestOfRows 152 = .ok (.iload 5, 2) := by decide +kernel
theorem dX5_digestOfRows_154 : decode cX5_digestOfRows 154 = .ok (.iaload, 1) := by decide +kernel
theorem dX5_digestOfRows_155 : decode cX5_digestOfRows 155 = .ok (.i2l, 1) := by decide +kernel
theorem dX5_digestOfRows_156 : decode cX5_digestOfRows 156 = .ok (.ladd, 1) := by decide +kernel
theorem dX5_digestOfRows_157 : decode cX5_digestOfRows 157 = .ok (.lstore_n 3, 1) := by decide +kernel
theorem dX5_digestOfRows_158 : decode cX5_digestOfRows 158 = .ok (.iinc 5 1, 3) := by decide +kernel
theorem dX5_digestOfRows_161 : decode cX5_digestOfRows 161 = .ok (.goto (-27), 3) := by decide +kernel
theorem dX5_digestOfRows_164 : decode cX5_digestOfRows 164 = .ok (.ldc2_w 121, 3) := by decide +kernel
theorem dX5_digestOfRows_167 : decode cX5_digestOfRows 167 = .ok (.lload_n 3, 1) := by decide +kernel
theorem dX5_digestOfRows_168 : decode cX5_digestOfRows 168 = .ok (.lmul, 1) := by decide +kernel
theorem dX5_digestOfRows_169 : decode cX5_digestOfRows 169 = .ok (.aload_n 0, 1) := by decide +kernel
theorem dX5_digestOfRows_170 : decode cX5_digestOfRows 170 = .ok (.getfield 62, 3) := by decide +kernel
theorem dX5_digestOfRows_173 : decode cX5_digestOfRows 173 = .ok (.i2l, 1) := by decide +kernel
theorem dX5_digestOfRows_174 : decode cX5_digestOfRows 174 = .ok (.ladd, 1) := by decide +kernel
theorem dX5_digestOfRows_175 : decode cX5_digestOfRows 175 = .ok (.lstore_n 3, 1) := by decide +kernel
theorem dX5_digestOfRows_176 : decode cX5_digestOfRows 176 = .ok (.ldc2_w 121, 3) := by decide +kernel
theorem dX5_digestOfRows_179 : decode cX5_digestOfRows 179 = .ok (.lload_n 3, 1) := by decide +kernel
theorem dX5_digestOfRows_180 : decode cX5_digestOfRows 180 = .ok (.lmul, 1) := by decide +kernel
theorem dX5_digestOfRows_181 : decode cX5_digestOfRows 181 = .ok (.aload_n 0, 1) := by decide +kernel
theorem dX5_digestOfRows_182 : decode cX5_digestOfRows 182 = .ok (.getfield 65, 3) := by decide +kernel
theorem dX5_digestOfRows_185 : decode cX5_digestOfRows 185 = .ok (.i2l, 1) := by decide +kernel
theorem dX5_digestOfRows_186 : decode cX5_digestOfRows 186 = .ok (.ladd, 1) := by decide +kernel
theorem dX5_digestOfRows_187 : decode cX5_digestOfRows 187 = .ok (.lreturn, 1) := by decide +kernel
theorem dX6_init_0 : decode cX6_init 0 = .ok (.aload_n 0, 1) := by decide +kernel
theorem dX6_init_1 : decode cX6_init 1 = .ok (.invokespecial 3, 3) := by decide +kernel
theorem dX6_init_4 : decode cX6_init 4 = .ok (.aload_n 0, 1) := by decide +kernel
theorem dX6_init_5 : decode cX6_init 5 = .ok (.iconst 4, 1) := by decide +kernel
theorem dX6_init_6 : decode cX6_init 6 = .ok (.bipush 7, 2) := by decide +kernel
theorem dX6_init_8 : decode cX6_init 8 = .ok (.multianewarray 9 2, 4) := by decide +kernel
theorem dX6_init_12 : decode cX6_init 12 = .ok (.putfield 11, 3) := by decide +kernel
theorem dX6_init_15 : decode cX6_init 15 = .ok (.return_, 1) := by decide +kernel
theorem dX6_find_0 : decode cX6_find 0 = .ok (.aload_n 0, 1) := by decide +kernel
theorem dX6_find_1 : decode cX6_find 1 = .ok (.aload_n 1, 1) := by decide +kernel
theorem dX6_find_2 : decode cX6_find 2 = .ok (.aload_n 2, 1) := by decide +kernel
theorem dX6_find_3 : decode cX6_find 3 = .ok (.invokevirtual 16, 3) := by decide +kernel
theorem dX6_find_6 : decode cX6_find 6 = .ok (.aload_n 0, 1) := by decide +kernel
theorem dX6_find_7 : decode cX6_find 7 = .ok (.iconst (-1), 1) := by decide +kernel
theorem dX6_find_8 : decode cX6_find 8 = .ok (.putfield 20, 3) := by decide +kernel
theorem dX6_find_11 : decode cX6_find 11 = .ok (.aload_n 0, 1) := by decide +kernel
theorem dX6_find_12 : decode cX6_find 12 = .ok (.iconst (-1), 1) := by decide +kernel
theorem dX6_find_13 : decode cX6_find 13 = .ok (.putfield 24, 3) := by decide +kernel
theorem dX6_find_16 : decode cX6_find 16 = .ok (.aload_n 0, 1) := by decide +kernel
theorem dX6_find_17 : decode cX6_find 17 = .ok (.iconst (-1), 1) := by decide +kernel
theorem dX6_find_18 : decode cX6_find 18 = .ok (.putfield 27, 3) := by decide +kernel
theorem dX6_find_21 : decode cX6_find 21 = .ok (.aload_n 0, 1) := by decide +kernel
theorem dX6_find_22 : decode cX6_find 22 = .ok (.aload_n 2, 1) := by decide +kernel
theorem dX6_find_23 : decode cX6_find 23 = .ok (.invokevirtual 30, 3) := by decide +kernel
theorem dX6_find_26 : decode cX6_find 26 = .ok (.ifCond .eq 11, 3) := by decide +kernel
theorem dX6_find_29 : decode cX6_find 29 = .ok (.aload_n 0, 1) := by decide +kernel
theorem dX6_find_30 : decode cX6_find 30 = .ok (.iconst 0, 1) := by decide +kernel
theorem dX6_find_31 : decode cX6_find 31 = .ok (.putfield 20, 3) := by decide +kernel
theorem dX6_find_34 : decode cX6_find 34 = .ok (.goto 54, 3) := by decide +kernel
theorem dX6_find_37 : decode cX6_find 37 = .ok (.aload_n 1, 1) := by decide +kernel
theorem dX6_find_38 : decode cX6_find 38 = .ok (.getfield 34, 3) := by decide +kernel
theorem dX6_find_41 : decode cX6_find 41 = .ok (.iconst 1, 1) := by decide +kernel
theorem dX6_find_42 : decode cX6_find 42 = .ok (.iadd, 1) := by decide +kernel
theorem dX6_find_43 : decode cX6_find 43 = .ok (.bipush 6, 2) := by decide +kernel
theorem dX6_find_45 : decode cX6_find 45 = .ok (.if_icmp .gt 19, 3) := by decide +kernel
theorem dX6_find_48 : decode cX6_find 48 = .ok (.aload_n 0, 1) := by decide +kernel
theorem dX6_find_49 : decode cX6_find 49 = .ok (.aload_n 2, 1) := by decide +kernel
theorem dX6_find_50 : decode cX6_find 50 = .ok (.invokevirtual 39, 3) := by decide +kernel
theorem dX6_find_53 : decode cX6_find 53 = .ok (.ifCond .eq 11, 3) := by decide +kernel
theorem dX6_find_56 : decode cX6_find 56 = .ok (.aload_n 0, 1) := by decide +kernel
theorem dX6_find_57 : decode cX6_find 57 = .ok (.iconst 1, 1) := by decide +kernel
theorem dX6_find_58 : decode cX6_find 58 = .ok (.putfield 20, 3) := by decide +kernel
theorem dX6_find_61 : decode cX6_find 61 = .ok (.goto 27, 3) := by decide +kernel
theorem dX6_find_64 : decode cX6_find 64 = .ok (.aload_n 1, 1) := by decide +kernel
theorem dX6_find_65 : decode cX6_find 65 = .ok (.getfield 34, 3) := by decide +kernel
theorem dX6_find_68 : decode cX6_find 68 = .ok (.iconst 2, 1) := by decide +kernel
theorem dX6_find_69 : decode cX6_find 69 = .ok (.iadd, 1) := by decide +kernel
theorem dX6_find_70 : decode cX6_find 70 = .ok (.bipush 6, 2) := by decide +kernel
theorem dX6_find_72 : decode cX6_find 72 = .ok (.if_icmp .gt 16, 3) := by decide +kernel
theorem dX6_find_75 : decode cX6_find 75 = .ok (.aload_n 0, 1) := by decide +kernel
theorem dX6_find_76 : decode cX6_find 76 = .ok (.aload_n 2, 1) := by decide +kernel
theorem dX6_find_77 : decode cX6_find 77 = .ok (.invokevirtual 42, 3) := by decide +kernel
theorem dX6_find_80 : decode cX6_find 80 = .ok (.ifCond .eq 8, 3) := by decide +kernel
theorem dX6_find_83 : decode cX6_find 83 = .ok (.aload_n 0, 1) := by decide +kernel
theorem dX6_find_84 : decode cX6_find 84 = .ok (.iconst 2, 1) := by decide +kernel
theorem dX6_find_85 : decode cX6_find 85 = .ok (.putfield 20, 3) := by decide +kernel
theorem dX6_find_88 : decode cX6_find 88 = .ok (.return_, 1) := by decide +kernel
theorem dX6_keepRows_0 : decode cX6_keepRows 0 = .ok (.aload_n 2, 1) := by decide +kernel
theorem dX6_keepRows_1 : decode cX6_keepRows 1 = .ok (.getfield 45, 3) := by decide +kernel
theorem dX6_keepRows_4 : decode cX6_keepRows 4 = .ok (.iconst 0, 1) := by decide +kernel
theorem dX6_keepRows_5 : decode cX6_keepRows 5 = .ok (.aload_n 0, 1) := by decide +kernel
theorem dX6_keepRows_6 : decode cX6_keepRows 6 = .ok (.getfield 11, 3) := by decide +kernel
theorem dX6_keepRows_9 : decode cX6_keepRows 9 = .ok (.iconst 0, 1) := by decide +kernel
theorem dX6_keepRows_10 : decode cX6_keepRows 10 = .ok (.aaload, 1) := by decide +kernel
theorem dX6_keepRows_11 : decode cX6_keepRows 11 = .ok (.iconst 0, 1) := by decide +kernel
theorem dX6_keepRows_12 : decode cX6_keepRows 12 = .ok (.bipush 7, 2) := by decide +kernel
theorem dX6_keepRows_14 : decode cX6_keepRows 14 = .ok (.invokestatic 51, 3) := by decide +kernel
theorem dX6_keepRows_17 : decode cX6_keepRows 17 = .ok (.iconst 0, 1) := by decide +kernel
theorem dX6_keepRows_18 : decode cX6_keepRows 18 = .ok (.istore_n 3, 1) := by decide +kernel
theorem dX6_keepRows_19 : decode cX6_keepRows 19 = .ok (.iload_n 3, 1) := by decide +kernel
theorem dX6_keepRows_20 : decode cX6_keepRows 20 = .ok (.aload_n 1, 1) := by decide +kernel
theorem dX6_keepRows_21 : decode cX6_keepRows 21 = .ok (.getfield 57, 3) := by decide +kernel
theorem dX6_keepRows_24 : decode cX6_keepRows 24 = .ok (.if_icmp .ge 42, 3) := by decide +kernel
theorem dX6_keepRows_27 : decode cX6_keepRows 27 = .ok (.aload_n 2, 1) := by decide +kernel
theorem dX6_keepRows_28 : decode cX6_keepRows 28 = .ok (.aload_n 1, 1) := by decide +kernel
theorem dX6_keepRows_29 : decode cX6_keepRows 29 = .ok (.getfield 60, 3) := by decide +kernel
theorem dX6_keepRows_32 : decode cX6_keepRows 32 = .ok (.iload_n 3, 1) := by decide +kernel
theorem dX6_keepRows_33 : decode cX6_keepRows 33 = .ok (.iaload, 1) := by decide +kernel
theorem dX6_keepRows_34 : decode cX6_keepRows 34 = .ok (.invokevirtual 63, 3) := by decide +kernel
theorem dX6_keepRows_37 : decode cX6_keepRows 37 = .ok (.aload_n 2, 1) := by decide +kernel
theorem dX6_keepRows_38 : decode cX6_keepRows 38 = .ok (.invokevirtual 67, 3) := by decide +kernel
theorem dX6_keepRows_41 : decode cX6_keepRows 41 = .ok (.aload_n 2, 1) := by decide +kernel
theorem dX6_keepRows_42 : decode cX6_keepRows 42 = .ok (.getfield 45, 3) := by decide +kernel
theorem dX6_keepRows_45 : decode cX6_keepRows 45 = .ok (.iconst 0, 1) := by decide +kernel
theorem dX6_keepRows_46 : decode cX6_keepRows 46 = .ok (.aload_n 0, 1) := by decide +kernel
theorem dX6_keepRows_47 : decode cX6_keepRows 47 = .ok (.getfield 11, 3) := by decide +kernel
theorem dX6_keepRows_50 : decode cX6_keepRows 50 = .ok (.iload_n 3, 1) := by decide +kernel
theorem dX6_keepRows_51 : decode cX6_keepRows 51 = .ok (.iconst 1, 1) := by decide +kernel
theorem dX6_keepRows_52 : decode cX6_keepRows 52 = .ok (.iadd, 1) := by decide +kernel
theorem dX6_keepRows_53 : decode cX6_keepRows 53 = .ok (.aaload, 1) := by decide +kernel
theorem dX6_keepRows_54 : decode cX6_keepRows 54 = .ok (.iconst 0, 1) := by decide +kernel
theorem dX6_keepRows_55 : decode cX6_keepRows 55 = .ok (.bipush 7, 2) := by decide +kernel
theorem dX6_keepRows_57 : decode cX6_keepRows 57 = .ok (.invokestatic 51, 3) := by decide +kernel
theorem dX6_keepRows_60 : decode cX6_keepRows 60 = .ok (.iinc 3 1, 3) := by decide +kernel
theorem dX6_keepRows_63 : decode cX6_keepRows 63 = .ok (.goto (-44), 3) := by decide +kernel
theorem dX6_keepRows_66 : decode cX6_keepRows 66 = .ok (.aload_n 0, 1) := by decide +kernel
theorem dX6_keepRows_67 : decode cX6_keepRows 67 = .ok (.aload_n 1, 1) := by decide +kernel
theorem dX6_keepRows_68 : decode cX6_keepRows 68 = .ok (.getfield 57, 3) := by decide +kernel
theorem dX6_keepRows_71 : decode cX6_keepRows 71 = .ok (.iconst 1, 1) := by decide +kernel
theorem dX6_keepRows_72 : decode cX6_keepRows 72 = .ok (.iadd, 1) := by decide +kernel
theorem dX6_keepRows_73 : decode cX6_keepRows 73 = .ok (.putfield 70, 3) := by decide +kernel
theorem dX6_keepRows_76 : decode cX6_keepRows 76 = .ok (.return_, 1) := by decide +kernel
theorem dX6_allWell_0 : decode cX6_allWell 0 = .ok (.iconst 0, 1) := by decide +kernel
theorem dX6_allWell_1 : decode cX6_allWell 1 = .ok (.istore_n 2, 1) := by decide +kernel
theorem dX6_allWell_2 : decode cX6_allWell 2 = .ok (.iload_n 2, 1) := by decide +kernel
theorem dX6_allWell_3 : decode cX6_allWell 3 = .ok (.aload_n 0, 1) := by decide +kernel
theorem dX6_allWell_4 : decode cX6_allWell 4 = .ok (.getfield 70, 3) := by decide +kernel
theorem dX6_allWell_7 : decode cX6_allWell 7 = .ok (.if_icmp .ge 36, 3) := by decide +kernel
theorem dX6_allWell_10 : decode cX6_allWell 10 = .ok (.aload_n 1, 1) := by decide +kernel
theorem dX6_allWell_11 : decode cX6_allWell 11 = .ok (.aload_n 0, 1) := by decide +kernel
theorem dX6_allWell_12 : decode cX6_allWell 12 = .ok (.getfield 11, 3) := by decide +kernel
theorem dX6_allWell_15 : decode cX6_allWell 15 = .ok (.iload_n 2, 1) := by decide +kernel
theorem dX6_allWell_16 : decode cX6_allWell 16 = .ok (.aaload, 1) := by decide +kernel
theorem dX6_allWell_17 : decode cX6_allWell 17 = .ok (.invokevirtual 73, 3) := by decide +kernel
theorem dX6_allWell_20 : decode cX6_allWell 20 = .ok (.aload_n 1, 1) := by decide +kernel
theorem dX6_allWell_21 : decode cX6_allWell 21 = .ok (.aload_n 1, 1) := by decide +kernel
theorem dX6_allWell_22 : decode cX6_allWell 22 = .ok (.getfield 77, 3) := by decide +kernel
theorem dX6_allWell_25 : decode cX6_allWell 25 = .ok (.invokevirtual 80, 3) := by decide +kernel
theorem dX6_allWell_28 : decode cX6_allWell 28 = .ok (.aload_n 1, 1) := by decide +kernel
theorem dX6_allWell_29 : decode cX6_allWell 29 = .ok (.getfield 77, 3) := by decide +kernel
theorem dX6_allWell_32 : decode cX6_allWell 32 = .ok (.if_icmp .ge 5, 3) := by decide +kernel
theorem dX6_allWell_35 : decode cX6_allWell 35 = .ok (.iconst 0, 1) := by decide +kernel
theorem dX6_allWell_36 : decode cX6_allWell 36 = .ok (.ireturn, 1) := by decide +kernel
theorem dX6_allWell_37 : decode cX6_allWell 37 = .ok (.iinc 2 1, 3) := by decide +kernel
theorem dX6_allWell_40 : decode cX6_allWell 40 = .ok (.goto (-38), 3) := by decide +kernel
theorem dX6_allWell_43 : decode cX6_allWell 43 = .ok (.iconst 1, 1) := by decide +kernel
theorem dX6_allWell_44 : decode cX6_allWell 44 = .ok (.ireturn, 1) := by decide +kernel
theorem dX6_findOne_0 : decode cX6_findOne 0 = .ok (.iconst 0, 1) := by decide +kernel
theorem dX6_findOne_1 : decode cX6_findOne 1 = .ok (.istore_n 2, 1) := by decide +kernel
theorem dX6_findOne_2 : decode cX6_findOne 2 = .ok (.iload_n 2, 1) := by decide +kernel
theorem dX6_findOne_3 : decode cX6_findOne 3 = .ok (.aload_n 1, 1) := by decide +kernel
theorem dX6_findOne_4 : decode cX6_findOne 4 = .ok (.getfield 77, 3) := by decide +kernel
theorem dX6_findOne_7 : decode cX6_findOne 7 = .ok (.bipush 6, 2) := by decide +kernel
theorem dX6_findOne_9 : decode cX6_findOne 9 = .ok (.imul, 1) := by decide +kernel
theorem dX6_findOne_10 : decode cX6_findOne 10 = .ok (.if_icmp .ge 29, 3) := by decide +kernel
theorem dX6_findOne_13 : decode cX6_findOne 13 = .ok (.aload_n 0, 1) := by decide +kernel
theorem dX6_findOne_14 : decode cX6_findOne 14 = .ok (.aload_n 1, 1) := by decide +kernel
theorem dX6_findOne_15 : decode cX6_findOne 15 = .ok (.iload_n 2, 1) := by decide +kernel
theorem dX6_findOne_16 : decode cX6_findOne 16 = .ok (.iload_n 2, 1) := by decide +kernel
theorem dX6_findOne_17 : decode cX6_findOne 17 = .ok (.invokevirtual 84, 3) := by decide +kernel
theorem dX6_findOne_20 : decode cX6_findOne 20 = .ok (.ifCond .eq 13, 3) := by decide +kernel
theorem dX6_findOne_23 : decode cX6_findOne 23 = .ok (.aload_n 0, 1) := by decide +kernel
theorem dX6_findOne_24 : decode cX6_findOne 24 = .ok (.iload_n 2, 1) := by decide +kernel
theorem dX6_findOne_25 : decode cX6_findOne 25 = .ok (.invokestatic 88, 3) := by decide +kernel
theorem dX6_findOne_28 : decode cX6_findOne 28 = .ok (.putfield 24, 3) := by decide +kernel
theorem dX6_findOne_31 : decode cX6_findOne 31 = .ok (.iconst 1, 1) := by decide +kernel
theorem dX6_findOne_32 : decode cX6_findOne 32 = .ok (.ireturn, 1) := by decide +kernel
theorem dX6_findOne_33 : decode cX6_findOne 33 = .ok (.iinc 2 1, 3) := by decide +kernel
theorem dX6_findOne_36 : decode cX6_findOne 36 = .ok (.goto (-34), 3) := by decide +kernel
theorem dX6_findOne_39 : decode cX6_findOne 39 = .ok (.iconst 0, 1) := by decide +kernel
theorem dX6_findOne_40 : decode cX6_findOne 40 = .ok (.ireturn, 1) := by decide +kernel
theorem dX6_findTwo_0 : decode cX6_findTwo 0 = .ok (.iconst 0, 1) := by decide +kernel
theorem dX6_findTwo_1 : decode cX6_findTwo 1 = .ok (.istore_n 2, 1) := by decide +kernel
theorem dX6_findTwo_2 : decode cX6_findTwo 2 = .ok (.iload_n 2, 1) := by decide +kernel
theorem dX6_findTwo_3 : decode cX6_findTwo 3 = .ok (.aload_n 1, 1) := by decide +kernel
theorem dX6_findTwo_4 : decode cX6_findTwo 4 = .ok (.getfield 77, 3) := by decide +kernel
theorem dX6_findTwo_7 : decode cX6_findTwo 7 = .ok (.bipush 6, 2) := by decide +kernel
theorem dX6_findTwo_9 : decode cX6_findTwo 9 = .ok (.imul, 1) := by decide +kernel
theorem dX6_findTwo_10 : decode cX6_findTwo 10 = .ok (.if_icmp .ge 58, 3) := by decide +kernel
theorem dX6_findTwo_13 : decode cX6_findTwo 13 = .ok (.iload_n 2, 1) := by decide +kernel
theorem dX6_findTwo_14 : decode cX6_findTwo 14 = .ok (.iconst 1, 1) := by decide +kernel
theorem dX6_findTwo_15 : decode cX6_findTwo 15 = .ok (.iadd, 1) := by decide +kernel
theorem dX6_findTwo_16 : decode cX6_findTwo 16 = .ok (.istore_n 3, 1) := by decide +kernel
theorem dX6_findTwo_17 : decode cX6_findTwo 17 = .ok (.iload_n 3, 1) := by decide +kernel
theorem dX6_findTwo_18 : decode cX6_findTwo 18 = .ok (.aload_n 1, 1) := by decide +kernel
theorem dX6_findTwo_19 : decode cX6_findTwo 19 = .ok (.getfield 77, 3) := by decide +kernel
theorem dX6_findTwo_22 : decode cX6_findTwo 22 = .ok (.bipush 6, 2) := by decide +kernel
theorem dX6_findTwo_24 : decode cX6_findTwo 24 = .ok (.imul, 1) := by decide +kernel
theorem dX6_findTwo_25 : decode cX6_findTwo 25 = .ok (.if_icmp .ge 37, 3) := by decide +kernel
theorem dX6_findTwo_28 : decode cX6_findTwo 28 = .ok (.aload_n 0, 1) := by decide +kernel
theorem dX6_findTwo_29 : decode cX6_findTwo 29 = .ok (.aload_n 1, 1) := by decide +kernel
theorem dX6_findTwo_30 : decode cX6_findTwo 30 = .ok (.iload_n 2, 1) := by decide +kernel
theorem dX6_findTwo_31 : decode cX6_findTwo 31 = .ok (.iload_n 3, 1) := by decide +kernel
theorem dX6_findTwo_32 : decode cX6_findTwo 32 = .ok (.invokevirtual 84, 3) := by decide +kernel
theorem dX6_findTwo_35 : decode cX6_findTwo 35 = .ok (.ifCond .eq 21, 3) := by decide +kernel
theorem dX6_findTwo_38 : decode cX6_findTwo 38 = .ok (.aload_n 0, 1) := by decide +kernel
theorem dX6_findTwo_39 : decode cX6_findTwo 39 = .ok (.iload_n 2, 1) := by decide +kernel
theorem dX6_findTwo_40 : decode cX6_findTwo 40 = .ok (.invokestatic 88, 3) := by decide +kernel
theorem dX6_findTwo_43 : decode cX6_findTwo 43 = .ok (.putfield 24, 3) := by decide +kernel
theorem dX6_findTwo_46 : decode cX6_findTwo 46 = .ok (.aload_n 0, 1) := by decide +kernel
theorem dX6_findTwo_47 : decode cX6_findTwo 47 = .ok (.iload_n 3, 1) := by decide +kernel
theorem dX6_findTwo_48 : decode cX6_findTwo 48 = .ok (.invokestatic 88, 3) := by decide +kernel
theorem dX6_findTwo_51 : decode cX6_findTwo 51 = .ok (.putfield 27, 3) := by decide +kernel
theorem dX6_findTwo_54 : decode cX6_findTwo 54 = .ok (.iconst 1, 1) := by decide +kernel
theorem dX6_findTwo_55 : decode cX6_findTwo 55 = .ok (.ireturn, 1) := by decide +kernel
theorem dX6_findTwo_56 : decode cX6_findTwo 56 = .ok (.iinc 3 1, 3) := by decide +kernel
theorem dX6_findTwo_59 : decode cX6_findTwo 59 = .ok (.goto (-42), 3) := by decide +kernel
theorem dX6_findTwo_62 : decode cX6_findTwo 62 = .ok (.iinc 2 1, 3) := by decide +kernel
theorem dX6_findTwo_65 : decode cX6_findTwo 65 = .ok (.goto (-63), 3) := by decide +kernel
theorem dX6_findTwo_68 : decode cX6_findTwo 68 = .ok (.iconst 0, 1) := by decide +kernel
theorem dX6_findTwo_69 : decode cX6_findTwo 69 = .ok (.ireturn, 1) := by decide +kernel
theorem dX6_wellWith_0 : decode cX6_wellWith 0 = .ok (.iload_n 2, 1) := by decide +kernel
theorem dX6_wellWith_1 : decode cX6_wellWith 1 = .ok (.bipush 6, 2) := by decide +kernel
theorem dX6_wellWith_3 : decode cX6_wellWith 3 = .ok (.idiv, 1) := by decide +kernel
theorem dX6_wellWith_4 : decode cX6_wellWith 4 = .ok (.istore 4, 2) := by decide +kernel
theorem dX6_wellWith_6 : decode cX6_wellWith 6 = .ok (.iload_n 3, 1) := by decide +kernel
theorem dX6_wellWith_7 : decode cX6_wellWith 7 = .ok (.bipush 6, 2) := by decide +kernel
theorem dX6_wellWith_9 : decode cX6_wellWith 9 = .ok (.idiv, 1) := by decide +kernel
theorem dX6_wellWith_10 : decode cX6_wellWith 10 = .ok (.istore 5, 2) := by decide +kernel
theorem dX6_wellWith_12 : decode cX6_wellWith 12 = .ok (.aload_n 1, 1) := by decide +kernel
theorem dX6_wellWith_13 : decode cX6_wellWith 13 = .ok (.getfield 91, 3) := by decide +kernel
theorem dX6_wellWith_16 : decode cX6_wellWith 16 = .ok (.iload 4, 2) := by decide +kernel
theorem dX6_wellWith_18 : decode cX6_wellWith 18 = .ok (.iaload, 1) := by decide +kernel
theorem dX6_wellWith_19 : decode cX6_wellWith 19 = .ok (.istore 6, 2) := by decide +kernel
theorem dX6_wellWith_21 : decode cX6_wellWith 21 = .ok (.aload_n 1, 1) := by decide +kernel
theorem dX6_wellWith_22 : decode cX6_wellWith 22 = .ok (.getfield 91, 3) := by decide +kernel
theorem dX6_wellWith_25 : decode cX6_wellWith 25 = .ok (.iload 5, 2) := by decide +kernel
theorem dX6_wellWith_27 : decode cX6_wellWith 27 = .ok (.iaload, 1) := by decide +kernel
theorem dX6_wellWith_28 : decode cX6_wellWith 28 = .ok (.istore 7, 2) := by decide +kernel
theorem dX6_wellWith_30 : decode cX6_wellWith 30 = .ok (.aload_n 1, 1) := by decide +kernel
theorem dX6_wellWith_31 : decode cX6_wellWith 31 = .ok (.getfield 91, 3) := by decide +kernel
theorem dX6_wellWith_34 : decode cX6_wellWith 34 = .ok (.iload 4, 2) := by decide +kernel
theorem dX6_wellWith_36 : decode cX6_wellWith 36 = .ok (.dup2, 1) := by decide +kernel
theorem dX6_wellWith_37 : decode cX6_wellWith 37 = .ok (.iaload, 1) := by decide +kernel
theorem dX6_wellWith_38 : decode cX6_wellWith 38 = .ok (.iconst 1, 1) := by decide +kernel
theorem dX6_wellWith_39 : decode cX6_wellWith 39 = .ok (.iload_n 2, 1) := by decide +kernel
theorem dX6_wellWith_40 : decode cX6_wellWith 40 = .ok (.bipush 6, 2) := by decide +kernel
theorem dX6_wellWith_42 : decode cX6_wellWith 42 = .ok (.irem, 1) := by decide +kernel
theorem dX6_wellWith_43 : decode cX6_wellWith 43 = .ok (.ishl, 1) := by decide +kernel
theorem dX6_wellWith_44 : decode cX6_wellWith 44 = .ok (.ior, 1) := by decide +kernel
theorem dX6_wellWith_45 : decode cX6_wellWith 45 = .ok (.iastore, 1) := by decide +kernel
theorem dX6_wellWith_46 : decode cX6_wellWith 46 = .ok (.aload_n 1, 1) := by decide +kernel
theorem dX6_wellWith_47 : decode cX6_wellWith 47 = .ok (.getfield 91, 3) := by decide +kernel
theorem dX6_wellWith_50 : decode cX6_wellWith 50 = .ok (.iload 5, 2) := by decide +kernel
theorem dX6_wellWith_52 : decode cX6_wellWith 52 = .ok (.dup2, 1) := by decide +kernel
theorem dX6_wellWith_53 : decode cX6_wellWith 53 = .ok (.iaload, 1) := by decide +kernel
theorem dX6_wellWith_54 : decode cX6_wellWith 54 = .ok (.iconst 1, 1) := by decide +kernel
theorem dX6_wellWith_55 : decode cX6_wellWith 55 = .ok (.iload_n 3, 1) := by decide +kernel
theorem dX6_wellWith_56 : decode cX6_wellWith 56 = .ok (.bipush 6, 2) := by decide +kernel
theorem dX6_wellWith_58 : decode cX6_wellWith 58 = .ok (.irem, 1) := by decide +kernel
theorem dX6_wellWith_59 : decode cX6_wellWith 59 = .ok (.ishl, 1) := by decide +kernel
theorem dX6_wellWith_60 : decode cX6_wellWith 60 = .ok (.ior, 1) := by decide +kernel
theorem dX6_wellWith_61 : decode cX6_wellWith 61 = .ok (.iastore, 1) := by decide +kernel
theorem dX6_wellWith_62 : decode cX6_wellWith 62 = .ok (.aload_n 0, 1) := by decide +kernel
theorem dX6_wellWith_63 : decode cX6_wellWith 63 = .ok (.aload_n 1, 1) := by decide +kernel
theorem dX6_wellWith_64 : decode cX6_wellWith 64 = .ok (.invokevirtual 30, 3) := by decide +kernel
theorem dX6_wellWith_67 : decode cX6_wellWith 67 = .ok (.istore 8, 2) := by decide +kernel
theorem dX6_wellWith_69 : decode cX6_wellWith 69 = .ok (.aload_n 1, 1) := by decide +kernel
theorem dX6_wellWith_70 : decode cX6_wellWith 70 = .ok (.getfield 91, 3) := by decide +kernel
theorem dX6_wellWith_73 : decode cX6_wellWith 73 = .ok (.iload 5, 2) := by decide +kernel
theorem dX6_wellWith_75 : decode cX6_wellWith 75 = .ok (.iload 7, 2) := by decide +kernel
theorem dX6_wellWith_77 : decode cX6_wellWith 77 = .ok (.iastore, 1) := by decide +kernel
theorem dX6_wellWith_78 : decode cX6_wellWith 78 = .ok (.aload_n 1, 1) := by decide +kernel
theorem dX6_wellWith_79 : decode cX6_wellWith 79 = .ok (.getfield 91, 3) := by decide +kernel
theorem dX6_wellWith_82 : decode cX6_wellWith 82 = .ok (.iload 4, 2) := by decide +kernel
theorem dX6_wellWith_84 : decode cX6_wellWith 84 = .ok (.iload 6, 2) := by decide +kernel
theorem dX6_wellWith_86 : decode cX6_wellWith 86 = .ok (.iastore, 1) := by decide +kernel
theorem dX6_wellWith_87 : decode cX6_wellWith 87 = .ok (.iload 8, 2) := by decide +kernel
theorem dX6_wellWith_89 : decode cX6_wellWith 89 = .ok (.ireturn, 1) := by decide +kernel
theorem dX6_named_0 : decode cX6_named 0 = .ok (.bipush 10, 2) := by decide +kernel
theorem dX6_named_2 : decode cX6_named 2 = .ok (.iload_n 0, 1) := by decide +kernel
theorem dX6_named_3 : decode cX6_named 3 = .ok (.bipush 6, 2) := by decide +kernel
theorem dX6_named_5 : decode cX6_named 5 = .ok (.idiv, 1) := by decide +kernel
theorem dX6_named_6 : decode cX6_named 6 = .ok (.imul, 1) := by decide +kernel
theorem dX6_named_7 : decode cX6_named 7 = .ok (.iload_n 0, 1) := by decide +kernel
theorem dX6_named_8 : decode cX6_named 8 = .ok (.bipush 6, 2) := by decide +kernel
theorem dX6_named_10 : decode cX6_named 10 = .ok (.irem, 1) := by decide +kernel
theorem dX6_named_11 : decode cX6_named 11 = .ok (.iadd, 1) := by decide +kernel
theorem dX6_named_12 : decode cX6_named 12 = .ok (.ireturn, 1) := by decide +kernel
theorem dX7_init_0 : decode cX7_init 0 = .ok (.aload_n 0, 1) := by decide +kernel
theorem dX7_init_1 : decode cX7_init 1 = .ok (.invokespecial 1, 3) := by decide +kernel
theorem dX7_init_4 : decode cX7_init 4 = .ok (.return_, 1) := by decide +kernel
theorem dX7_canRead_0 : decode cX7_canRead 0 = .ok (.iconst 1, 1) := by decide +kernel
theorem dX7_canRead_1 : decode cX7_canRead 1 = .ok (.ireturn, 1) := by decide +kernel
theorem dX7_canWrite_0 : decode cX7_canWrite 0 = .ok (.iconst 1, 1) := by decide +kernel
theorem dX7_canWrite_1 : decode cX7_canWrite 1 = .ok (.ireturn, 1) := by decide +kernel
theorem dX7_learntOf_0 : decode cX7_learntOf 0 = .ok (.iload_n 2, 1) := by decide +kernel
theorem dX7_learntOf_1 : decode cX7_learntOf 1 = .ok (.ireturn, 1) := by decide +kernel
theorem dX7_neededOf_0 : decode cX7_neededOf 0 = .ok (.iload_n 1, 1) := by decide +kernel
theorem dX7_neededOf_1 : decode cX7_neededOf 1 = .ok (.ireturn, 1) := by decide +kernel
theorem dX8_init_0 : decode cX8_init 0 = .ok (.aload_n 0, 1) := by decide +kernel
theorem dX8_init_1 : decode cX8_init 1 = .ok (.invokespecial 1, 3) := by decide +kernel
theorem dX8_init_4 : decode cX8_init 4 = .ok (.return_, 1) := by decide +kernel
theorem dX8_learntOf_0 : decode cX8_learntOf 0 = .ok (.iload_n 2, 1) := by decide +kernel
theorem dX8_learntOf_1 : decode cX8_learntOf 1 = .ok (.iload_n 1, 1) := by decide +kernel
theorem dX8_learntOf_2 : decode cX8_learntOf 2 = .ok (.ior, 1) := by decide +kernel
theorem dX8_learntOf_3 : decode cX8_learntOf 3 = .ok (.ireturn, 1) := by decide +kernel
theorem dX9_init_0 : decode cX9_init 0 = .ok (.aload_n 0, 1) := by decide +kernel
theorem dX9_init_1 : decode cX9_init 1 = .ok (.invokespecial 3, 3) := by decide +kernel
theorem dX9_init_4 : decode cX9_init 4 = .ok (.aload_n 0, 1) := by decide +kernel
theorem dX9_init_5 : decode cX9_init 5 = .ok (.iconst 0, 1) := by decide +kernel
theorem dX9_init_6 : decode cX9_init 6 = .ok (.putfield 9, 3) := by decide +kernel
theorem dX9_init_9 : decode cX9_init 9 = .ok (.aload_n 0, 1) := by decide +kernel
theorem dX9_init_10 : decode cX9_init 10 = .ok (.iconst 0, 1) := by decide +kernel
theorem dX9_init_11 : decode cX9_init 11 = .ok (.putfield 15, 3) := by decide +kernel
theorem dX9_init_14 : decode cX9_init 14 = .ok (.aload_n 0, 1) := by decide +kernel
theorem dX9_init_15 : decode cX9_init 15 = .ok (.bipush 30, 2) := by decide +kernel
theorem dX9_init_17 : decode cX9_init 17 = .ok (.newarray .int, 2) := by decide +kernel
theorem dX9_init_19 : decode cX9_init 19 = .ok (.putfield 18, 3) := by decide +kernel
theorem dX9_init_22 : decode cX9_init 22 = .ok (.aload_n 0, 1) := by decide +kernel
theorem dX9_init_23 : decode cX9_init 23 = .ok (.sipush 150, 3) := by decide +kernel
theorem dX9_init_26 : decode cX9_init 26 = .ok (.newarray .byte, 2) := by decide +kernel
theorem dX9_init_28 : decode cX9_init 28 = .ok (.putfield 22, 3) := by decide +kernel
theorem dX9_init_31 : decode cX9_init 31 = .ok (.return_, 1) := by decide +kernel
theorem dX9_take_0 : decode cX9_take 0 = .ok (.iload_n 1, 1) := by decide +kernel
theorem dX9_take_1 : decode cX9_take 1 = .ok (.ifCond .lt 9, 3) := by decide +kernel
theorem dX9_take_4 : decode cX9_take 4 = .ok (.iload_n 1, 1) := by decide +kernel
theorem dX9_take_5 : decode cX9_take 5 = .ok (.bipush 127, 2) := by decide +kernel
theorem dX9_take_7 : decode cX9_take 7 = .ok (.if_icmp .le 6, 3) := by decide +kernel
theorem dX9_take_10 : decode cX9_take 10 = .ok (.bipush (-2), 2) := by decide +kernel
theorem dX9_take_12 : decode cX9_take 12 = .ok (.ireturn, 1) := by decide +kernel
theorem dX9_take_13 : decode cX9_take 13 = .ok (.aload_n 0, 1) := by decide +kernel
theorem dX9_take_14 : decode cX9_take 14 = .ok (.getfield 9, 3) := by decide +kernel
theorem dX9_take_17 : decode cX9_take 17 = .ok (.sipush 150, 3) := by decide +kernel
theorem dX9_take_20 : decode cX9_take 20 = .ok (.if_icmp .lt 6, 3) := by decide +kernel
theorem dX9_take_23 : decode cX9_take 23 = .ok (.bipush (-4), 2) := by decide +kernel
theorem dX9_take_25 : decode cX9_take 25 = .ok (.ireturn, 1) := by decide +kernel
theorem dX9_take_26 : decode cX9_take 26 = .ok (.aload_n 0, 1) := by decide +kernel
theorem dX9_take_27 : decode cX9_take 27 = .ok (.getfield 22, 3) := by decide +kernel
theorem dX9_take_30 : decode cX9_take 30 = .ok (.aload_n 0, 1) := by decide +kernel
theorem dX9_take_31 : decode cX9_take 31 = .ok (.getfield 9, 3) := by decide +kernel
theorem dX9_take_34 : decode cX9_take 34 = .ok (.iload_n 1, 1) := by decide +kernel
theorem dX9_take_35 : decode cX9_take 35 = .ok (.i2b, 1) := by decide +kernel
theorem dX9_take_36 : decode cX9_take 36 = .ok (.bastore, 1) := by decide +kernel
theorem dX9_take_37 : decode cX9_take 37 = .ok (.aload_n 0, 1) := by decide +kernel
theorem dX9_take_38 : decode cX9_take 38 = .ok (.dup, 1) := by decide +kernel
theorem dX9_take_39 : decode cX9_take 39 = .ok (.getfield 9, 3) := by decide +kernel
theorem dX9_take_42 : decode cX9_take 42 = .ok (.iconst 1, 1) := by decide +kernel
theorem dX9_take_43 : decode cX9_take 43 = .ok (.iadd, 1) := by decide +kernel
theorem dX9_take_44 : decode cX9_take 44 = .ok (.putfield 9, 3) := by decide +kernel
theorem dX9_take_47 : decode cX9_take 47 = .ok (.aload_n 0, 1) := by decide +kernel
theorem dX9_take_48 : decode cX9_take 48 = .ok (.getfield 9, 3) := by decide +kernel
theorem dX9_take_51 : decode cX9_take 51 = .ok (.ireturn, 1) := by decide +kernel
theorem dX9_findFault_0 : decode cX9_findFault 0 = .ok (.aload_n 0, 1) := by decide +kernel
theorem dX9_findFault_1 : decode cX9_findFault 1 = .ok (.iconst 0, 1) := by decide +kernel
theorem dX9_findFault_2 : decode cX9_findFault 2 = .ok (.putfield 26, 3) := by decide +kernel
theorem dX9_findFault_5 : decode cX9_findFault 5 = .ok (.aload_n 0, 1) := by decide +kernel
theorem dX9_findFault_6 : decode cX9_findFault 6 = .ok (.iconst 0, 1) := by decide +kernel
theorem dX9_findFault_7 : decode cX9_findFault 7 = .ok (.putfield 15, 3) := by decide +kernel
theorem dX9_findFault_10 : decode cX9_findFault 10 = .ok (.iconst 0, 1) := by decide +kernel
theorem dX9_findFault_11 : decode cX9_findFault 11 = .ok (.istore_n 1, 1) := by decide +kernel
theorem dX9_findFault_12 : decode cX9_findFault 12 = .ok (.iload_n 1, 1) := by decide +kernel
theorem dX9_findFault_13 : decode cX9_findFault 13 = .ok (.bipush 30, 2) := by decide +kernel
theorem dX9_findFault_15 : decode cX9_findFault 15 = .ok (.if_icmp .gt 43, 3) := by decide +kernel
theorem dX9_findFault_18 : decode cX9_findFault 18 = .ok (.aload_n 0, 1) := by decide +kernel
theorem dX9_findFault_19 : decode cX9_findFault 19 = .ok (.invokevirtual 29, 3) := by decide +kernel
theorem dX9_findFault_22 : decode cX9_findFault 22 = .ok (.aload_n 0, 1) := by decide +kernel
theorem dX9_findFault_23 : decode cX9_findFault 23 = .ok (.getfield 32, 3) := by decide +kernel
theorem dX9_findFault_26 : decode cX9_findFault 26 = .ok (.bipush 11, 2) := by decide +kernel
theorem dX9_findFault_28 : decode cX9_findFault 28 = .ok (.if_icmp .ne 12, 3) := by decide +kernel
theorem dX9_findFault_31 : decode cX9_findFault 31 = .ok (.aload_n 0, 1) := by decide +kernel
theorem dX9_findFault_32 : decode cX9_findFault 32 = .ok (.getfield 15, 3) := by decide +kernel
theorem dX9_findFault_35 : decode cX9_findFault 35 = .ok (.ifCond .le 5, 3) := by decide +kernel
theorem dX9_findFault_38 : decode cX9_findFault 38 = .ok (.iconst (-1), 1) := by decide +kernel
theorem dX9_findFault_39 : decode cX9_findFault 39 = .ok (.ireturn, 1) := by decide +kernel
theorem dX9_findFault_40 : decode cX9_findFault 40 = .ok (.aload_n 0, 1) := by decide +kernel
theorem dX9_findFault_41 : decode cX9_findFault 41 = .ok (.invokevirtual 35, 3) := by decide +kernel
theorem dX9_findFault_44 : decode cX9_findFault 44 = .ok (.ifCond .ne 8, 3) := by decide +kernel
theorem dX9_findFault_47 : decode cX9_findFault 47 = .ok (.aload_n 0, 1) := by decide +kernel
theorem dX9_findFault_48 : decode cX9_findFault 48 = .ok (.getfield 39, 3) := by decide +kernel
theorem dX9_findFault_51 : decode cX9_findFault 51 = .ok (.ireturn, 1) := by decide +kernel
theorem dX9_findFault_52 : decode cX9_findFault 52 = .ok (.iinc 1 1, 3) := by decide +kernel
theorem dX9_findFault_55 : decode cX9_findFault 55 = .ok (.goto (-43), 3) := by decide +kernel
theorem dX9_findFault_58 : decode cX9_findFault 58 = .ok (.aload_n 0, 1) := by decide +kernel
theorem dX9_findFault_59 : decode cX9_findFault 59 = .ok (.getfield 39, 3) := by decide +kernel
theorem dX9_findFault_62 : decode cX9_findFault 62 = .ok (.ireturn, 1) := by decide +kernel
theorem dX9_takeItem_0 : decode cX9_takeItem 0 = .ok (.aload_n 0, 1) := by decide +kernel
theorem dX9_takeItem_1 : decode cX9_takeItem 1 = .ok (.getfield 15, 3) := by decide +kernel
theorem dX9_takeItem_4 : decode cX9_takeItem 4 = .ok (.ifCond .ne 7, 3) := by decide +kernel
theorem dX9_takeItem_7 : decode cX9_takeItem 7 = .ok (.iconst 1, 1) := by decide +kernel
theorem dX9_takeItem_8 : decode cX9_takeItem 8 = .ok (.goto 4, 3) := by decide +kernel
theorem dX9_takeItem_11 : decode cX9_takeItem 11 = .ok (.iconst 0, 1) := by decide +kernel
theorem dX9_takeItem_12 : decode cX9_takeItem 12 = .ok (.istore_n 1, 1) := by decide +kernel
theorem dX9_takeItem_13 : decode cX9_takeItem 13 = .ok (.aload_n 0, 1) := by decide +kernel
theorem dX9_takeItem_14 : decode cX9_takeItem 14 = .ok (.getfield 32, 3) := by decide +kernel
theorem dX9_takeItem_17 : decode cX9_takeItem 17 = .ok (.bipush 7, 2) := by decide +kernel
theorem dX9_takeItem_19 : decode cX9_takeItem 19 = .ok (.if_icmp .ge 28, 3) := by decide +kernel
theorem dX9_takeItem_22 : decode cX9_takeItem 22 = .ok (.iload_n 1, 1) := by decide +kernel
theorem dX9_takeItem_23 : decode cX9_takeItem 23 = .ok (.aload_n 0, 1) := by decide +kernel
theorem dX9_takeItem_24 : decode cX9_takeItem 24 = .ok (.getfield 32, 3) := by decide +kernel
theorem dX9_takeItem_27 : decode cX9_takeItem 27 = .ok (.ifCond .ne 7, 3) := by decide +kernel
theorem dX9_takeItem_30 : decode cX9_takeItem 30 = .ok (.iconst 1, 1) := by decide +kernel
theorem dX9_takeItem_31 : decode cX9_takeItem 31 = .ok (.goto 4, 3) := by decide +kernel
theorem dX9_takeItem_34 : decode cX9_takeItem 34 = .ok (.iconst 0, 1) := by decide +kernel
theorem dX9_takeItem_35 : decode cX9_takeItem 35 = .ok (.if_icmp .ne 12, 3) := by decide +kernel
theorem dX9_takeItem_38 : decode cX9_takeItem 38 = .ok (.aload_n 0, 1) := by decide +kernel
theorem dX9_takeItem_39 : decode cX9_takeItem 39 = .ok (.getfield 15, 3) := by decide +kernel
theorem dX9_takeItem_42 : decode cX9_takeItem 42 = .ok (.bipush 30, 2) := by decide +kernel
theorem dX9_takeItem_44 : decode cX9_takeItem 44 = .ok (.if_icmp .lt 5, 3) := by decide +kernel
theorem dX9_takeItem_47 : decode cX9_takeItem 47 = .ok (.iconst 0, 1) := by decide +kernel
theorem dX9_takeItem_48 : decode cX9_takeItem 48 = .ok (.ireturn, 1) := by decide +kernel
theorem dX9_takeItem_49 : decode cX9_takeItem 49 = .ok (.aload_n 0, 1) := by decide +kernel
theorem dX9_takeItem_50 : decode cX9_takeItem 50 = .ok (.getfield 32, 3) := by decide +kernel
theorem dX9_takeItem_53 : decode cX9_takeItem 53 = .ok (.istore_n 2, 1) := by decide +kernel
theorem dX9_takeItem_54 : decode cX9_takeItem 54 = .ok (.iload_n 1, 1) := by decide +kernel
theorem dX9_takeItem_55 : decode cX9_takeItem 55 = .ok (.ifCond .eq 7, 3) := by decide +kernel
theorem dX9_takeItem_58 : decode cX9_takeItem 58 = .ok (.iconst 1, 1) := by decide +kernel
theorem dX9_takeItem_59 : decode cX9_takeItem 59 = .ok (.goto 4, 3) := by decide +kernel
theorem dX9_takeItem_62 : decode cX9_takeItem 62 = .ok (.iconst 2, 1) := by decide +kernel
theorem dX9_takeItem_63 : decode cX9_takeItem 63 = .ok (.istore_n 3, 1) := by decide +kernel
theorem dX9_takeItem_64 : decode cX9_takeItem 64 = .ok (.iconst 0, 1) := by decide +kernel
theorem dX9_takeItem_65 : decode cX9_takeItem 65 = .ok (.istore 4, 2) := by decide +kernel
theorem dX9_takeItem_67 : decode cX9_takeItem 67 = .ok (.iload 4, 2) := by decide +kernel
theorem dX9_takeItem_69 : decode cX9_takeItem 69 = .ok (.iload_n 3, 1) := by decide +kernel
theorem dX9_takeItem_70 : decode cX9_takeItem 70 = .ok (.if_icmp .ge 34, 3) := by decide +kernel
theorem dX9_takeItem_73 : decode cX9_takeItem 73 = .ok (.aload_n 0, 1) := by decide +kernel
theorem dX9_takeItem_74 : decode cX9_takeItem 74 = .ok (.invokevirtual 29, 3) := by decide +kernel
theorem dX9_takeItem_77 : decode cX9_takeItem 77 = .ok (.aload_n 0, 1) := by decide +kernel
theorem dX9_takeItem_78 : decode cX9_takeItem 78 = .ok (.getfield 32, 3) := by decide +kernel
theorem dX9_takeItem_81 : decode cX9_takeItem 81 = .ok (.bipush 8, 2) := by decide +kernel
theorem dX9_takeItem_83 : decode cX9_takeItem 83 = .ok (.if_icmp .eq 5, 3) := by decide +kernel
theorem dX9_takeItem_86 : decode cX9_takeItem 86 = .ok (.iconst 0, 1) := by decide +kernel
theorem dX9_takeItem_87 : decode cX9_takeItem 87 = .ok (.ireturn, 1) := by decide +kernel
theorem dX9_takeItem_88 : decode cX9_takeItem 88 = .ok (.bipush 10, 2) := by decide +kernel
theorem dX9_takeItem_90 : decode cX9_takeItem 90 = .ok (.iload_n 2, 1) := by decide +kernel
theorem dX9_takeItem_91 : decode cX9_takeItem 91 = .ok (.imul, 1) := by decide +kernel
theorem dX9_takeItem_92 : decode cX9_takeItem 92 = .ok (.aload_n 0, 1) := by decide +kernel
theorem dX9_takeItem_93 : decode cX9_takeItem 93 = .ok (.getfield 42, 3) := by decide +kernel
theorem dX9_takeItem_96 : decode cX9_takeItem 96 = .ok (.iadd, 1) := by decide +kernel
theorem dX9_takeItem_97 : decode cX9_takeItem 97 = .ok (.istore_n 2, 1) := by decide +kernel
theorem dX9_takeItem_98 : decode cX9_takeItem 98 = .ok (.iinc 4 1, 3) := by decide +kernel
theorem dX9_takeItem_101 : decode cX9_takeItem 101 = .ok (.goto (-34), 3) := by decide +kernel
theorem dX9_takeItem_104 : decode cX9_takeItem 104 = .ok (.aload_n 0, 1) := by decide +kernel
theorem dX9_takeItem_105 : decode cX9_takeItem 105 = .ok (.invokevirtual 29, 3) := by decide +kernel
theorem dX9_takeItem_108 : decode cX9_takeItem 108 = .ok (.aload_n 0, 1) := by decide +kernel
theorem dX9_takeItem_109 : decode cX9_takeItem 109 = .ok (.getfield 32, 3) := by decide +kernel
theorem dX9_takeItem_112 : decode cX9_takeItem 112 = .ok (.bipush 9, 2) := by decide +kernel
theorem dX9_takeItem_114 : decode cX9_takeItem 114 = .ok (.if_icmp .eq 5, 3) := by decide +kernel
theorem dX9_takeItem_117 : decode cX9_takeItem 117 = .ok (.iconst 0, 1) := by decide +kernel
theorem dX9_takeItem_118 : decode cX9_takeItem 118 = .ok (.ireturn, 1) := by decide +kernel
theorem dX9_takeItem_119 : decode cX9_takeItem 119 = .ok (.aload_n 0, 1) := by decide +kernel
theorem dX9_takeItem_120 : decode cX9_takeItem 120 = .ok (.getfield 18, 3) := by decide +kernel
theorem dX9_takeItem_123 : decode cX9_takeItem 123 = .ok (.aload_n 0, 1) := by decide +kernel
theorem dX9_takeItem_124 : decode cX9_takeItem 124 = .ok (.getfield 15, 3) := by decide +kernel
theorem dX9_takeItem_127 : decode cX9_takeItem 127 = .ok (.iload_n 1, 1) := by decide +kernel
theorem dX9_takeItem_128 : decode cX9_takeItem 128 = .ok (.ifCond .eq 10, 3) := by decide +kernel
theorem dX9_takeItem_131 : decode cX9_takeItem 131 = .ok (.bipush 10, 2) := by decide +kernel
theorem dX9_takeItem_133 : decode cX9_takeItem 133 = .ok (.iload_n 2, 1) := by decide +kernel
theorem dX9_takeItem_134 : decode cX9_takeItem 134 = .ok (.imul, 1) := by decide +kernel
theorem dX9_takeItem_135 : decode cX9_takeItem 135 = .ok (.goto 4, 3) := by decide +kernel
theorem dX9_takeItem_138 : decode cX9_takeItem 138 = .ok (.iload_n 2, 1) := by decide +kernel
theorem dX9_takeItem_139 : decode cX9_takeItem 139 = .ok (.iastore, 1) := by decide +kernel
theorem dX9_takeItem_140 : decode cX9_takeItem 140 = .ok (.aload_n 0, 1) := by decide +kernel
theorem dX9_takeItem_141 : decode cX9_takeItem 141 = .ok (.dup, 1) := by decide +kernel
theorem dX9_takeItem_142 : decode cX9_takeItem 142 = .ok (.getfield 15, 3) := by decide +kernel
theorem dX9_takeItem_145 : decode cX9_takeItem 145 = .ok (.iconst 1, 1) := by decide +kernel
theorem dX9_takeItem_146 : decode cX9_takeItem 146 = .ok (.iadd, 1) := by decide +kernel
theorem dX9_takeItem_147 : decode cX9_takeItem 147 = .ok (.putfield 15, 3) := by decide +kernel
theorem dX9_takeItem_150 : decode cX9_takeItem 150 = .ok (.iconst 1, 1) := by decide +kernel
theorem dX9_takeItem_151 : decode cX9_takeItem 151 = .ok (.ireturn, 1) := by decide +kernel
theorem dX9_nextToken_0 : decode cX9_nextToken 0 = .ok (.aload_n 0, 1) := by decide +kernel
theorem dX9_nextToken_1 : decode cX9_nextToken 1 = .ok (.getfield 26, 3) := by decide +kernel
theorem dX9_nextToken_4 : decode cX9_nextToken 4 = .ok (.aload_n 0, 1) := by decide +kernel
theorem dX9_nextToken_5 : decode cX9_nextToken 5 = .ok (.getfield 9, 3) := by decide +kernel
theorem dX9_nextToken_8 : decode cX9_nextToken 8 = .ok (.if_icmp .ge 30, 3) := by decide +kernel
theorem dX9_nextToken_11 : decode cX9_nextToken 11 = .ok (.aload_n 0, 1) := by decide +kernel
theorem dX9_nextToken_12 : decode cX9_nextToken 12 = .ok (.getfield 22, 3) := by decide +kernel
theorem dX9_nextToken_15 : decode cX9_nextToken 15 = .ok (.aload_n 0, 1) := by decide +kernel
theorem dX9_nextToken_16 : decode cX9_nextToken 16 = .ok (.getfield 26, 3) := by decide +kernel
theorem dX9_nextToken_19 : decode cX9_nextToken 19 = .ok (.baload, 1) := by decide +kernel
theorem dX9_nextToken_20 : decode cX9_nextToken 20 = .ok (.bipush 32, 2) := by decide +kernel
theorem dX9_nextToken_22 : decode cX9_nextToken 22 = .ok (.if_icmp .ne 16, 3) := by decide +kernel
theorem dX9_nextToken_25 : decode cX9_nextToken 25 = .ok (.aload_n 0, 1) := by decide +kernel
theorem dX9_nextToken_26 : decode cX9_nextToken 26 = .ok (.dup, 1) := by decide +kernel
theorem dX9_nextToken_27 : decode cX9_nextToken 27 = .ok (.getfield 26, 3) := by decide +kernel
theorem dX9_nextToken_30 : decode cX9_nextToken 30 = .ok (.iconst 1, 1) := by decide +kernel
theorem dX9_nextToken_31 : decode cX9_nextToken 31 = .ok (.iadd, 1) := by decide +kernel
theorem dX9_nextToken_32 : decode cX9_nextToken 32 = .ok (.putfield 26, 3) := by decide +kernel
theorem dX9_nextToken_35 : decode cX9_nextToken 35 = .ok (.goto (-35), 3) := by decide +kernel
theorem dX9_nextToken_38 : decode cX9_nextToken 38 = .ok (.aload_n 0, 1) := by decide +kernel
theorem dX9_nextToken_39 : decode cX9_nextToken 39 = .ok (.aload_n 0, 1) := by decide +kernel
theorem dX9_nextToken_40 : decode cX9_nextToken 40 = .ok (.getfield 26, 3) := by decide +kernel
theorem dX9_nextToken_43 : decode cX9_nextToken 43 = .ok (.putfield 39, 3) := by decide +kernel
theorem dX9_nextToken_46 : decode cX9_nextToken 46 = .ok (.aload_n 0, 1) := by decide +kernel
theorem dX9_nextToken_47 : decode cX9_nextToken 47 = .ok (.getfield 26, 3) := by decide +kernel
theorem dX9_nextToken_50 : decode cX9_nextToken 50 = .ok (.aload_n 0, 1) := by decide +kernel
theorem dX9_nextToken_51 : decode cX9_nextToken 51 = .ok (.getfield 9, 3) := by decide +kernel
theorem dX9_nextToken_54 : decode cX9_nextToken 54 = .ok (.if_icmp .lt 10, 3) := by decide +kernel
theorem dX9_nextToken_57 : decode cX9_nextToken 57 = .ok (.aload_n 0, 1) := by decide +kernel
theorem dX9_nextToken_58 : decode cX9_nextToken 58 = .ok (.bipush 11, 2) := by decide +kernel
theorem dX9_nextToken_60 : decode cX9_nextToken 60 = .ok (.putfield 32, 3) := by decide +kernel
theorem dX9_nextToken_63 : decode cX9_nextToken 63 = .ok (.return_, 1) := by decide +kernel
theorem dX9_nextToken_64 : decode cX9_nextToken 64 = .ok (.aload_n 0, 1) := by decide +kernel
theorem dX9_nextToken_65 : decode cX9_nextToken 65 = .ok (.aload_n 0, 1) := by decide +kernel
theorem dX9_nextToken_66 : decode cX9_nextToken 66 = .ok (.getfield 26, 3) := by decide +kernel
theorem dX9_nextToken_69 : decode cX9_nextToken 69 = .ok (.invokevirtual 45, 3) := by decide +kernel
theorem dX9_nextToken_72 : decode cX9_nextToken 72 = .ok (.ifCond .eq 10, 3) := by decide +kernel
theorem dX9_nextToken_75 : decode cX9_nextToken 75 = .ok (.aload_n 0, 1) := by decide +kernel
theorem dX9_nextToken_76 : decode cX9_nextToken 76 = .ok (.invokevirtual 49, 3) := by decide +kernel
theorem dX9_nextToken_79 : decode cX9_nextToken 79 = .ok (.goto 56, 3) := by decide +kernel
theorem dX9_nextToken_82 : decode cX9_nextToken 82 = .ok (.aload_n 0, 1) := by decide +kernel
theorem dX9_nextToken_83 : decode cX9_nextToken 83 = .ok (.aload_n 0, 1) := by decide +kernel
theorem dX9_nextToken_84 : decode cX9_nextToken 84 = .ok (.getfield 26, 3) := by decide +kernel
theorem dX9_nextToken_87 : decode cX9_nextToken 87 = .ok (.invokevirtual 52, 3) := by decide +kernel
theorem dX9_nextToken_90 : decode cX9_nextToken 90 = .ok (.ifCond .eq 10, 3) := by decide +kernel
theorem dX9_nextToken_93 : decode cX9_nextToken 93 = .ok (.aload_n 0, 1) := by decide +kernel
theorem dX9_nextToken_94 : decode cX9_nextToken 94 = .ok (.invokevirtual 55, 3) := by decide +kernel
theorem dX9_nextToken_97 : decode cX9_nextToken 97 = .ok (.goto 38, 3) := by decide +kernel
theorem dX9_nextToken_100 : decode cX9_nextToken 100 = .ok (.aload_n 0, 1) := by decide +kernel
theorem dX9_nextToken_101 : decode cX9_nextToken 101 = .ok (.aload_n 0, 1) := by decide +kernel
theorem dX9_nextToken_102 : decode cX9_nextToken 102 = .ok (.getfield 22, 3) := by decide +kernel
theorem dX9_nextToken_105 : decode cX9_nextToken 105 = .ok (.aload_n 0, 1) := by decide +kernel
theorem dX9_nextToken_106 : decode cX9_nextToken 106 = .ok (.getfield 26, 3) := by decide +kernel
theorem dX9_nextToken_109 : decode cX9_nextToken 109 = .ok (.baload, 1) := by decide +kernel
theorem dX9_nextToken_110 : decode cX9_nextToken 110 = .ok (.bipush 59, 2) := by decide +kernel
theorem dX9_nextToken_112 : decode cX9_nextToken 112 = .ok (.if_icmp .ne 8, 3) := by decide +kernel
theorem dX9_nextToken_115 : decode cX9_nextToken 115 = .ok (.bipush 9, 2) := by decide +kernel
theorem dX9_nextToken_117 : decode cX9_nextToken 117 = .ok (.goto 5, 3) := by decide +kernel
theorem dX9_nextToken_120 : decode cX9_nextToken 120 = .ok (.bipush 10, 2) := by decide +kernel
theorem dX9_nextToken_122 : decode cX9_nextToken 122 = .ok (.putfield 32, 3) := by decide +kernel
theorem dX9_nextToken_125 : decode cX9_nextToken 125 = .ok (.aload_n 0, 1) := by decide +kernel
theorem dX9_nextToken_126 : decode cX9_nextToken 126 = .ok (.dup, 1) := by decide +kernel
theorem dX9_nextToken_127 : decode cX9_nextToken 127 = .ok (.getfield 26, 3) := by decide +kernel
theorem dX9_nextToken_130 : decode cX9_nextToken 130 = .ok (.iconst 1, 1) := by decide +kernel
theorem dX9_nextToken_131 : decode cX9_nextToken 131 = .ok (.iadd, 1) := by decide +kernel
theorem dX9_nextToken_132 : decode cX9_nextToken 132 = .ok (.putfield 26, 3) := by decide +kernel
theorem dX9_nextToken_135 : decode cX9_nextToken 135 = .ok (.return_, 1) := by decide +kernel
theorem dX9_passLetters_0 : decode cX9_passLetters 0 = .ok (.aload_n 0, 1) := by decide +kernel
theorem dX9_passLetters_1 : decode cX9_passLetters 1 = .ok (.getfield 26, 3) := by decide +kernel
theorem dX9_passLetters_4 : decode cX9_passLetters 4 = .ok (.aload_n 0, 1) := by decide +kernel
theorem dX9_passLetters_5 : decode cX9_passLetters 5 = .ok (.getfield 9, 3) := by decide +kernel
theorem dX9_passLetters_8 : decode cX9_passLetters 8 = .ok (.if_icmp .ge 27, 3) := by decide +kernel
theorem dX9_passLetters_11 : decode cX9_passLetters 11 = .ok (.aload_n 0, 1) := by decide +kernel
theorem dX9_passLetters_12 : decode cX9_passLetters 12 = .ok (.aload_n 0, 1) := by decide +kernel
theorem dX9_passLetters_13 : decode cX9_passLetters 13 = .ok (.getfield 26, 3) := by decide +kernel
theorem dX9_passLetters_16 : decode cX9_passLetters 16 = .ok (.invokevirtual 45, 3) := by decide +kernel
theorem dX9_passLetters_19 : decode cX9_passLetters 19 = .ok (.ifCond .eq 16, 3) := by decide +kernel
theorem dX9_passLetters_22 : decode cX9_passLetters 22 = .ok (.aload_n 0, 1) := by decide +kernel
theorem dX9_passLetters_23 : decode cX9_passLetters 23 = .ok (.dup, 1) := by decide +kernel
theorem dX9_passLetters_24 : decode cX9_passLetters 24 = .ok (.getfield 26, 3) := by decide +kernel
theorem dX9_passLetters_27 : decode cX9_passLetters 27 = .ok (.iconst 1, 1) := by decide +kernel
theorem dX9_passLetters_28 : decode cX9_passLetters 28 = .ok (.iadd, 1) := by decide +kernel
theorem dX9_passLetters_29 : decode cX9_passLetters 29 = .ok (.putfield 26, 3) := by decide +kernel
theorem dX9_passLetters_32 : decode cX9_passLetters 32 = .ok (.goto (-32), 3) := by decide +kernel
theorem dX9_passLetters_35 : decode cX9_passLetters 35 = .ok (.aload_n 0, 1) := by decide +kernel
theorem dX9_passLetters_36 : decode cX9_passLetters 36 = .ok (.bipush 10, 2) := by decide +kernel
theorem dX9_passLetters_38 : decode cX9_passLetters 38 = .ok (.putfield 32, 3) := by decide +kernel
theorem dX9_passLetters_41 : decode cX9_passLetters 41 = .ok (.iconst 0, 1) := by decide +kernel
theorem dX9_passLetters_42 : decode cX9_passLetters 42 = .ok (.istore_n 1, 1) := by decide +kernel
theorem dX9_passLetters_43 : decode cX9_passLetters 43 = .ok (.iload_n 1, 1) := by decide +kernel
theorem dX9_passLetters_44 : decode cX9_passLetters 44 = .ok (.bipush 7, 2) := by decide +kernel
theorem dX9_passLetters_46 : decode cX9_passLetters 46 = .ok (.if_icmp .ge 25, 3) := by decide +kernel
theorem dX9_passLetters_49 : decode cX9_passLetters 49 = .ok (.aload_n 0, 1) := by decide +kernel
theorem dX9_passLetters_50 : decode cX9_passLetters 50 = .ok (.iload_n 1, 1) := by decide +kernel
theorem dX9_passLetters_51 : decode cX9_passLetters 51 = .ok (.invokestatic 58, 3) := by decide +kernel
theorem dX9_passLetters_54 : decode cX9_passLetters 54 = .ok (.invokevirtual 62, 3) := by decide +kernel
theorem dX9_passLetters_57 : decode cX9_passLetters 57 = .ok (.ifCond .eq 8, 3) := by decide +kernel
theorem dX9_passLetters_60 : decode cX9_passLetters 60 = .ok (.aload_n 0, 1) := by decide +kernel
theorem dX9_passLetters_61 : decode cX9_passLetters 61 = .ok (.iload_n 1, 1) := by decide +kernel
theorem dX9_passLetters_62 : decode cX9_passLetters 62 = .ok (.putfield 32, 3) := by decide +kernel
theorem dX9_passLetters_65 : decode cX9_passLetters 65 = .ok (.iinc 1 1, 3) := by decide +kernel
theorem dX9_passLetters_68 : decode cX9_passLetters 68 = .ok (.goto (-25), 3) := by decide +kernel
theorem dX9_passLetters_71 : decode cX9_passLetters 71 = .ok (.return_, 1) := by decide +kernel
theorem dX9_passFigures_0 : decode cX9_passFigures 0 = .ok (.aload_n 0, 1) := by decide +kernel
theorem dX9_passFigures_1 : decode cX9_passFigures 1 = .ok (.aload_n 0, 1) := by decide +kernel
theorem dX9_passFigures_2 : decode cX9_passFigures 2 = .ok (.getfield 22, 3) := by decide +kernel
theorem dX9_passFigures_5 : decode cX9_passFigures 5 = .ok (.aload_n 0, 1) := by decide +kernel
theorem dX9_passFigures_6 : decode cX9_passFigures 6 = .ok (.getfield 39, 3) := by decide +kernel
theorem dX9_passFigures_9 : decode cX9_passFigures 9 = .ok (.baload, 1) := by decide +kernel
theorem dX9_passFigures_10 : decode cX9_passFigures 10 = .ok (.bipush 48, 2) := by decide +kernel
theorem dX9_passFigures_12 : decode cX9_passFigures 12 = .ok (.isub, 1) := by decide +kernel
theorem dX9_passFigures_13 : decode cX9_passFigures 13 = .ok (.putfield 42, 3) := by decide +kernel
theorem dX9_passFigures_16 : decode cX9_passFigures 16 = .ok (.aload_n 0, 1) := by decide +kernel
theorem dX9_passFigures_17 : decode cX9_passFigures 17 = .ok (.getfield 26, 3) := by decide +kernel
theorem dX9_passFigures_20 : decode cX9_passFigures 20 = .ok (.aload_n 0, 1) := by decide +kernel
theorem dX9_passFigures_21 : decode cX9_passFigures 21 = .ok (.getfield 9, 3) := by decide +kernel
theorem dX9_passFigures_24 : decode cX9_passFigures 24 = .ok (.if_icmp .ge 27, 3) := by decide +kernel
theorem dX9_passFigures_27 : decode cX9_passFigures 27 = .ok (.aload_n 0, 1) := by decide +kernel
theorem dX9_passFigures_28 : decode cX9_passFigures 28 = .ok (.aload_n 0, 1) := by decide +kernel
theorem dX9_passFigures_29 : decode cX9_passFigures 29 = .ok (.getfield 26, 3) := by decide +kernel
theorem dX9_passFigures_32 : decode cX9_passFigures 32 = .ok (.invokevirtual 52, 3) := by decide +kernel
theorem dX9_passFigures_35 : decode cX9_passFigures 35 = .ok (.ifCond .eq 16, 3) := by decide +kernel
theorem dX9_passFigures_38 : decode cX9_passFigures 38 = .ok (.aload_n 0, 1) := by decide +kernel
theorem dX9_passFigures_39 : decode cX9_passFigures 39 = .ok (.dup, 1) := by decide +kernel
theorem dX9_passFigures_40 : decode cX9_passFigures 40 = .ok (.getfield 26, 3) := by decide +kernel
theorem dX9_passFigures_43 : decode cX9_passFigures 43 = .ok (.iconst 1, 1) := by decide +kernel
theorem dX9_passFigures_44 : decode cX9_passFigures 44 = .ok (.iadd, 1) := by decide +kernel
theorem dX9_passFigures_45 : decode cX9_passFigures 45 = .ok (.putfield 26, 3) := by decide +kernel
theorem dX9_passFigures_48 : decode cX9_passFigures 48 = .ok (.goto (-32), 3) := by decide +kernel
theorem dX9_passFigures_51 : decode cX9_passFigures 51 = .ok (.aload_n 0, 1) := by decide +kernel
theorem dX9_passFigures_52 : decode cX9_passFigures 52 = .ok (.aload_n 0, 1) := by decide +kernel
theorem dX9_passFigures_53 : decode cX9_passFigures 53 = .ok (.getfield 26, 3) := by decide +kernel
theorem dX9_passFigures_56 : decode cX9_passFigures 56 = .ok (.aload_n 0, 1) := by decide +kernel
theorem dX9_passFigures_57 : decode cX9_passFigures 57 = .ok (.getfield 39, 3) := by decide +kernel
theorem dX9_passFigures_60 : decode cX9_passFigures 60 = .ok (.isub, 1) := by decide +kernel
theorem dX9_passFigures_61 : decode cX9_passFigures 61 = .ok (.iconst 1, 1) := by decide +kernel
theorem dX9_passFigures_62 : decode cX9_passFigures 62 = .ok (.if_icmp .ne 8, 3) := by decide +kernel
theorem dX9_passFigures_65 : decode cX9_passFigures 65 = .ok (.bipush 8, 2) := by decide +kernel
theorem dX9_passFigures_67 : decode cX9_passFigures 67 = .ok (.goto 5, 3) := by decide +kernel
theorem dX9_passFigures_70 : decode cX9_passFigures 70 = .ok (.bipush 10, 2) := by decide +kernel
theorem dX9_passFigures_72 : decode cX9_passFigures 72 = .ok (.putfield 32, 3) := by decide +kernel
theorem dX9_passFigures_75 : decode cX9_passFigures 75 = .ok (.return_, 1) := by decide +kernel
theorem dX9_isLetter_0 : decode cX9_isLetter 0 = .ok (.aload_n 0, 1) := by decide +kernel
theorem dX9_isLetter_1 : decode cX9_isLetter 1 = .ok (.getfield 22, 3) := by decide +kernel
theorem dX9_isLetter_4 : decode cX9_isLetter 4 = .ok (.iload_n 1, 1) := by decide +kernel
theorem dX9_isLetter_5 : decode cX9_isLetter 5 = .ok (.baload, 1) := by decide +kernel
theorem dX9_isLetter_6 : decode cX9_isLetter 6 = .ok (.bipush 97, 2) := by decide +kernel
theorem dX9_isLetter_8 : decode cX9_isLetter 8 = .ok (.if_icmp .lt 18, 3) := by decide +kernel
theorem dX9_isLetter_11 : decode cX9_isLetter 11 = .ok (.aload_n 0, 1) := by decide +kernel
theorem dX9_isLetter_12 : decode cX9_isLetter 12 = .ok (.getfield 22, 3) := by decide +kernel
theorem dX9_isLetter_15 : decode cX9_isLetter 15 = .ok (.iload_n 1, 1) := by decide +kernel
theorem dX9_isLetter_16 : decode cX9_isLetter 16 = .ok (.baload, 1) := by decide +kernel
theorem dX9_isLetter_17 : decode cX9_isLetter 17 = .ok (.bipush 122, 2) := by decide +kernel
theorem dX9_isLetter_19 : decode cX9_isLetter 19 = .ok (.if_icmp .gt 7, 3) := by decide +kernel
theorem dX9_isLetter_22 : decode cX9_isLetter 22 = .ok (.iconst 1, 1) := by decide +kernel
theorem dX9_isLetter_23 : decode cX9_isLetter 23 = .ok (.goto 4, 3) := by decide +kernel
theorem dX9_isLetter_26 : decode cX9_isLetter 26 = .ok (.iconst 0, 1) := by decide +kernel
theorem dX9_isLetter_27 : decode cX9_isLetter 27 = .ok (.ireturn, 1) := by decide +kernel
theorem dX9_isFigure_0 : decode cX9_isFigure 0 = .ok (.aload_n 0, 1) := by decide +kernel
theorem dX9_isFigure_1 : decode cX9_isFigure 1 = .ok (.getfield 22, 3) := by decide +kernel
theorem dX9_isFigure_4 : decode cX9_isFigure 4 = .ok (.iload_n 1, 1) := by decide +kernel
theorem dX9_isFigure_5 : decode cX9_isFigure 5 = .ok (.baload, 1) := by decide +kernel
theorem dX9_isFigure_6 : decode cX9_isFigure 6 = .ok (.bipush 48, 2) := by decide +kernel
theorem dX9_isFigure_8 : decode cX9_isFigure 8 = .ok (.if_icmp .lt 18, 3) := by decide +kernel
theorem dX9_isFigure_11 : decode cX9_isFigure 11 = .ok (.aload_n 0, 1) := by decide +kernel
theorem dX9_isFigure_12 : decode cX9_isFigure 12 = .ok (.getfield 22, 3) := by decide +kernel
theorem dX9_isFigure_15 : decode cX9_isFigure 15 = .ok (.iload_n 1, 1) := by decide +kernel
theorem dX9_isFigure_16 : decode cX9_isFigure 16 = .ok (.baload, 1) := by decide +kernel
theorem dX9_isFigure_17 : decode cX9_isFigure 17 = .ok (.bipush 57, 2) := by decide +kernel
theorem dX9_isFigure_19 : decode cX9_isFigure 19 = .ok (.if_icmp .gt 7, 3) := by decide +kernel
theorem dX9_isFigure_22 : decode cX9_isFigure 22 = .ok (.iconst 1, 1) := by decide +kernel
theorem dX9_isFigure_23 : decode cX9_isFigure 23 = .ok (.goto 4, 3) := by decide +kernel
theorem dX9_isFigure_26 : decode cX9_isFigure 26 = .ok (.iconst 0, 1) := by decide +kernel
theorem dX9_isFigure_27 : decode cX9_isFigure 27 = .ok (.ireturn, 1) := by decide +kernel
theorem dX9_spells_0 : decode cX9_spells 0 = .ok (.aload_n 0, 1) := by decide +kernel
theorem dX9_spells_1 : decode cX9_spells 1 = .ok (.getfield 26, 3) := by decide +kernel
theorem dX9_spells_4 : decode cX9_spells 4 = .ok (.aload_n 0, 1) := by decide +kernel
theorem dX9_spells_5 : decode cX9_spells 5 = .ok (.getfield 39, 3) := by decide +kernel
theorem dX9_spells_8 : decode cX9_spells 8 = .ok (.isub, 1) := by decide +kernel
theorem dX9_spells_9 : decode cX9_spells 9 = .ok (.aload_n 1, 1) := by decide +kernel
theorem dX9_spells_10 : decode cX9_spells 10 = .ok (.invokevirtual 66, 3) := by decide +kernel
theorem dX9_spells_13 : decode cX9_spells 13 = .ok (.if_icmp .eq 5, 3) := by decide +kernel
theorem dX9_spells_16 : decode cX9_spells 16 = .ok (.iconst 0, 1) := by decide +kernel
theorem dX9_spells_17 : decode cX9_spells 17 = .ok (.ireturn, 1) := by decide +kernel
theorem dX9_spells_18 : decode cX9_spells 18 = .ok (.iconst 0, 1) := by decide +kernel
theorem dX9_spells_19 : decode cX9_spells 19 = .ok (.istore_n 2, 1) := by decide +kernel
theorem dX9_spells_20 : decode cX9_spells 20 = .ok (.iload_n 2, 1) := by decide +kernel
theorem dX9_spells_21 : decode cX9_spells 21 = .ok (.aload_n 1, 1) := by decide +kernel
theorem dX9_spells_22 : decode cX9_spells 22 = .ok (.invokevirtual 66, 3) := by decide +kernel
theorem dX9_spells_25 : decode cX9_spells 25 = .ok (.if_icmp .ge 30, 3) := by decide +kernel
theorem dX9_spells_28 : decode cX9_spells 28 = .ok (.aload_n 0, 1) := by decide +kernel
theorem dX9_spells_29 : decode cX9_spells 29 = .ok (.getfield 22, 3) := by decide +kernel
theorem dX9_spells_32 : decode cX9_spells 32 = .ok (.aload_n 0, 1) := by decide +kernel
theorem dX9_spells_33 : decode cX9_spells 33 = .ok (.getfield 39, 3) := by decide +kernel
theorem dX9_spells_36 : decode cX9_spells 36 = .ok (.iload_n 2, 1) := by decide +kernel
theorem dX9_spells_37 : decode cX9_spells 37 = .ok (.iadd, 1) := by decide +kernel
theorem dX9_spells_38 : decode cX9_spells 38 = .ok (.baload, 1) := by decide +kernel
theorem dX9_spells_39 : decode cX9_spells 39 = .ok (.aload_n 1, 1) := by decide +kernel
theorem dX9_spells_40 : decode cX9_spells 40 = .ok (.iload_n 2, 1) := by decide +kernel
theorem dX9_spells_41 : decode cX9_spells 41 = .ok (.invokevirtual 71, 3) := by decide +kernel
theorem dX9_spells_44 : decode cX9_spells 44 = .ok (.if_icmp .eq 5, 3) := by decide +kernel
theorem dX9_spells_47 : decode cX9_spells 47 = .ok (.iconst 0, 1) := by decide +kernel
theorem dX9_spells_48 : decode cX9_spells 48 = .ok (.ireturn, 1) := by decide +kernel
theorem dX9_spells_49 : decode cX9_spells 49 = .ok (.iinc 2 1, 3) := by decide +kernel
theorem dX9_spells_52 : decode cX9_spells 52 = .ok (.goto (-32), 3) := by decide +kernel
theorem dX9_spells_55 : decode cX9_spells 55 = .ok (.iconst 1, 1) := by decide +kernel
theorem dX9_spells_56 : decode cX9_spells 56 = .ok (.ireturn, 1) := by decide +kernel
theorem dX9_word_0 : decode cX9_word 0 = .ok (.iload_n 0, 1) := by decide +kernel
theorem dX9_word_1 : decode cX9_word 1 = .ok (.tableswitch 57 0 5 #[39, 42, 45, 48, 51, 54], 39) := by decide +kernel
theorem dX9_word_40 : decode cX9_word 40 = .ok (.ldc 75, 2) := by decide +kernel
theorem dX9_word_42 : decode cX9_word 42 = .ok (.areturn, 1) := by decide +kernel
theorem dX9_word_43 : decode cX9_word 43 = .ok (.ldc 77, 2) := by decide +kernel
theorem dX9_word_45 : decode cX9_word 45 = .ok (.areturn, 1) := by decide +kernel
theorem dX9_word_46 : decode cX9_word 46 = .ok (.ldc 79, 2) := by decide +kernel
theorem dX9_word_48 : decode cX9_word 48 = .ok (.areturn, 1) := by decide +kernel
theorem dX9_word_49 : decode cX9_word 49 = .ok (.ldc 81, 2) := by decide +kernel
theorem dX9_word_51 : decode cX9_word 51 = .ok (.areturn, 1) := by decide +kernel
theorem dX9_word_52 : decode cX9_word 52 = .ok (.ldc 83, 2) := by decide +kernel
theorem dX9_word_54 : decode cX9_word 54 = .ok (.areturn, 1) := by decide +kernel
theorem dX9_word_55 : decode cX9_word 55 = .ok (.ldc 85, 2) := by decide +kernel
theorem dX9_word_57 : decode cX9_word 57 = .ok (.areturn, 1) := by decide +kernel
theorem dX9_word_58 : decode cX9_word 58 = .ok (.ldc 87, 2) := by decide +kernel
theorem dX9_word_60 : decode cX9_word 60 = .ok (.areturn, 1) := by decide +kernel
theorem dX10_init_0 : decode cX10_init 0 = .ok (.aload_n 0, 1) := by decide +kernel
theorem dX10_init_1 : decode cX10_init 1 = .ok (.invokespecial 1, 3) := by decide +kernel
theorem dX10_init_4 : decode cX10_init 4 = .ok (.aload_n 0, 1) := by decide +kernel
theorem dX10_init_5 : decode cX10_init 5 = .ok (.bipush 6, 2) := by decide +kernel
theorem dX10_init_7 : decode cX10_init 7 = .ok (.anewarray 9, 3) := by decide +kernel
theorem dX10_init_10 : decode cX10_init 10 = .ok (.putfield 11, 3) := by decide +kernel
theorem dX10_init_13 : decode cX10_init 13 = .ok (.aload_n 0, 1) := by decide +kernel
theorem dX10_init_14 : decode cX10_init 14 = .ok (.new 15, 3) := by decide +kernel
theorem dX10_init_17 : decode cX10_init 17 = .ok (.dup, 1) := by decide +kernel
theorem dX10_init_18 : decode cX10_init 18 = .ok (.invokespecial 17, 3) := by decide +kernel
theorem dX10_init_21 : decode cX10_init 21 = .ok (.putfield 18, 3) := by decide +kernel
theorem dX10_init_24 : decode cX10_init 24 = .ok (.aload_n 0, 1) := by decide +kernel
theorem dX10_init_25 : decode cX10_init 25 = .ok (.new 15, 3) := by decide +kernel
theorem dX10_init_28 : decode cX10_init 28 = .ok (.dup, 1) := by decide +kernel
theorem dX10_init_29 : decode cX10_init 29 = .ok (.invokespecial 17, 3) := by decide +kernel
theorem dX10_init_32 : decode cX10_init 32 = .ok (.putfield 22, 3) := by decide +kernel
theorem dX10_init_35 : decode cX10_init 35 = .ok (.aload_n 0, 1) := by decide +kernel
theorem dX10_init_36 : decode cX10_init 36 = .ok (.iconst 2, 1) := by decide +kernel
theorem dX10_init_37 : decode cX10_init 37 = .ok (.anewarray 15, 3) := by decide +kernel
theorem dX10_init_40 : decode cX10_init 40 = .ok (.putfield 25, 3) := by decide +kernel
theorem dX10_init_43 : decode cX10_init 43 = .ok (.aload_n 0, 1) := by decide +kernel
theorem dX10_init_44 : decode cX10_init 44 = .ok (.iconst 2, 1) := by decide +kernel
theorem dX10_init_45 : decode cX10_init 45 = .ok (.newarray .boolean, 2) := by decide +kernel
theorem dX10_init_47 : decode cX10_init 47 = .ok (.putfield 29, 3) := by decide +kernel
theorem dX10_init_50 : decode cX10_init 50 = .ok (.aload_n 0, 1) := by decide +kernel
theorem dX10_init_51 : decode cX10_init 51 = .ok (.new 33, 3) := by decide +kernel
theorem dX10_init_54 : decode cX10_init 54 = .ok (.dup, 1) := by decide +kernel
theorem dX10_init_55 : decode cX10_init 55 = .ok (.invokespecial 35, 3) := by decide +kernel
theorem dX10_init_58 : decode cX10_init 58 = .ok (.putfield 36, 3) := by decide +kernel
theorem dX10_init_61 : decode cX10_init 61 = .ok (.aload_n 0, 1) := by decide +kernel
theorem dX10_init_62 : decode cX10_init 62 = .ok (.new 40, 3) := by decide +kernel
theorem dX10_init_65 : decode cX10_init 65 = .ok (.dup, 1) := by decide +kernel
theorem dX10_init_66 : decode cX10_init 66 = .ok (.invokespecial 42, 3) := by decide +kernel
theorem dX10_init_69 : decode cX10_init 69 = .ok (.putfield 43, 3) := by decide +kernel
theorem dX10_init_72 : decode cX10_init 72 = .ok (.aload_n 0, 1) := by decide +kernel
theorem dX10_init_73 : decode cX10_init 73 = .ok (.new 47, 3) := by decide +kernel
theorem dX10_init_76 : decode cX10_init 76 = .ok (.dup, 1) := by decide +kernel
theorem dX10_init_77 : decode cX10_init 77 = .ok (.invokespecial 49, 3) := by decide +kernel
theorem dX10_init_80 : decode cX10_init 80 = .ok (.putfield 50, 3) := by decide +kernel
theorem dX10_init_83 : decode cX10_init 83 = .ok (.aload_n 0, 1) := by decide +kernel
theorem dX10_init_84 : decode cX10_init 84 = .ok (.bipush 7, 2) := by decide +kernel
theorem dX10_init_86 : decode cX10_init 86 = .ok (.newarray .int, 2) := by decide +kernel
theorem dX10_init_88 : decode cX10_init 88 = .ok (.putfield 54, 3) := by decide +kernel
theorem dX10_init_91 : decode cX10_init 91 = .ok (.aload_n 0, 1) := by decide +kernel
theorem dX10_init_92 : decode cX10_init 92 = .ok (.sipush 128, 3) := by decide +kernel
theorem dX10_init_95 : decode cX10_init 95 = .ok (.newarray .int, 2) := by decide +kernel
theorem dX10_init_97 : decode cX10_init 97 = .ok (.putfield 58, 3) := by decide +kernel
theorem dX10_init_100 : decode cX10_init 100 = .ok (.aload_n 0, 1) := by decide +kernel
theorem dX10_init_101 : decode cX10_init 101 = .ok (.iconst 3, 1) := by decide +kernel
theorem dX10_init_102 : decode cX10_init 102 = .ok (.newarray .int, 2) := by decide +kernel
theorem dX10_init_104 : decode cX10_init 104 = .ok (.putfield 61, 3) := by decide +kernel
theorem dX10_init_107 : decode cX10_init 107 = .ok (.aload_n 0, 1) := by decide +kernel
theorem dX10_init_108 : decode cX10_init 108 = .ok (.lconst 0, 1) := by decide +kernel
theorem dX10_init_109 : decode cX10_init 109 = .ok (.putfield 64, 3) := by decide +kernel
theorem dX10_init_112 : decode cX10_init 112 = .ok (.aload_n 0, 1) := by decide +kernel
theorem dX10_init_113 : decode cX10_init 113 = .ok (.lconst 1, 1) := by decide +kernel
theorem dX10_init_114 : decode cX10_init 114 = .ok (.putfield 68, 3) := by decide +kernel
theorem dX10_init_117 : decode cX10_init 117 = .ok (.aload_n 0, 1) := by decide +kernel
theorem dX10_init_118 : decode cX10_init 118 = .ok (.getfield 11, 3) := by decide +kernel
theorem dX10_init_121 : decode cX10_init 121 = .ok (.iconst 0, 1) := by decide +kernel
theorem dX10_init_122 : decode cX10_init 122 = .ok (.new 9, 3) := by decide +kernel
theorem dX10_init_125 : decode cX10_init 125 = .ok (.dup, 1) := by decide +kernel
theorem dX10_init_126 : decode cX10_init 126 = .ok (.invokespecial 71, 3) := by decide +kernel
theorem dX10_init_129 : decode cX10_init 129 = .ok (.aastore, 1) := by decide +kernel
theorem dX10_init_130 : decode cX10_init 130 = .ok (.aload_n 0, 1) := by decide +kernel
theorem dX10_init_131 : decode cX10_init 131 = .ok (.getfield 11, 3) := by decide +kernel
theorem dX10_init_134 : decode cX10_init 134 = .ok (.iconst 1, 1) := by decide +kernel
theorem dX10_init_135 : decode cX10_init 135 = .ok (.new 72, 3) := by decide +kernel
theorem dX10_init_138 : decode cX10_init 138 = .ok (.dup, 1) := by decide +kernel
theorem dX10_init_139 : decode cX10_init 139 = .ok (.invokespecial 74, 3) := by decide +kernel
theorem dX10_init_142 : decode cX10_init 142 = .ok (.aastore, 1) := by decide +kernel
theorem dX10_init_143 : decode cX10_init 143 = .ok (.aload_n 0, 1) := by decide +kernel
theorem dX10_init_144 : decode cX10_init 144 = .ok (.getfield 11, 3) := by decide +kernel
theorem dX10_init_147 : decode cX10_init 147 = .ok (.iconst 2, 1) := by decide +kernel
theorem dX10_init_148 : decode cX10_init 148 = .ok (.new 75, 3) := by decide +kernel
theorem dX10_init_151 : decode cX10_init 151 = .ok (.dup, 1) := by decide +kernel
theorem dX10_init_152 : decode cX10_init 152 = .ok (.invokespecial 77, 3) := by decide +kernel
theorem dX10_init_155 : decode cX10_init 155 = .ok (.aastore, 1) := by decide +kernel
theorem dX10_init_156 : decode cX10_init 156 = .ok (.aload_n 0, 1) := by decide +kernel
theorem dX10_init_157 : decode cX10_init 157 = .ok (.getfield 11, 3) := by decide +kernel
theorem dX10_init_160 : decode cX10_init 160 = .ok (.iconst 3, 1) := by decide +kernel
theorem dX10_init_161 : decode cX10_init 161 = .ok (.new 78, 3) := by decide +kernel
theorem dX10_init_164 : decode cX10_init 164 = .ok (.dup, 1) := by decide +kernel
theorem dX10_init_165 : decode cX10_init 165 = .ok (.invokespecial 80, 3) := by decide +kernel
theorem dX10_init_168 : decode cX10_init 168 = .ok (.aastore, 1) := by decide +kernel
theorem dX10_init_169 : decode cX10_init 169 = .ok (.aload_n 0, 1) := by decide +kernel
theorem dX10_init_170 : decode cX10_init 170 = .ok (.getfield 11, 3) := by decide +kernel
theorem dX10_init_173 : decode cX10_init 173 = .ok (.iconst 4, 1) := by decide +kernel
theorem dX10_init_174 : decode cX10_init 174 = .ok (.new 81, 3) := by decide +kernel
theorem dX10_init_177 : decode cX10_init 177 = .ok (.dup, 1) := by decide +kernel
theorem dX10_init_178 : decode cX10_init 178 = .ok (.invokespecial 83, 3) := by decide +kernel
theorem dX10_init_181 : decode cX10_init 181 = .ok (.aastore, 1) := by decide +kernel
theorem dX10_init_182 : decode cX10_init 182 = .ok (.aload_n 0, 1) := by decide +kernel
theorem dX10_init_183 : decode cX10_init 183 = .ok (.getfield 11, 3) := by decide +kernel
theorem dX10_init_186 : decode cX10_init 186 = .ok (.iconst 5, 1) := by decide +kernel
theorem dX10_init_187 : decode cX10_init 187 = .ok (.new 84, 3) := by decide +kernel
theorem dX10_init_190 : decode cX10_init 190 = .ok (.dup, 1) := by decide +kernel
theorem dX10_init_191 : decode cX10_init 191 = .ok (.invokespecial 86, 3) := by decide +kernel
theorem dX10_init_194 : decode cX10_init 194 = .ok (.aastore, 1) := by decide +kernel
theorem dX10_init_195 : decode cX10_init 195 = .ok (.iconst 0, 1) := by decide +kernel
theorem dX10_init_196 : decode cX10_init 196 = .ok (.istore_n 1, 1) := by decide +kernel
theorem dX10_init_197 : decode cX10_init 197 = .ok (.iload_n 1, 1) := by decide +kernel
theorem dX10_init_198 : decode cX10_init 198 = .ok (.iconst 2, 1) := by decide +kernel
theorem dX10_init_199 : decode cX10_init 199 = .ok (.if_icmp .ge 22, 3) := by decide +kernel
theorem dX10_init_202 : decode cX10_init 202 = .ok (.aload_n 0, 1) := by decide +kernel
theorem dX10_init_203 : decode cX10_init 203 = .ok (.getfield 25, 3) := by decide +kernel
theorem dX10_init_206 : decode cX10_init 206 = .ok (.iload_n 1, 1) := by decide +kernel
theorem dX10_init_207 : decode cX10_init 207 = .ok (.new 15, 3) := by decide +kernel
theorem dX10_init_210 : decode cX10_init 210 = .ok (.dup, 1) := by decide +kernel
theorem dX10_init_211 : decode cX10_init 211 = .ok (.invokespecial 17, 3) := by decide +kernel
theorem dX10_init_214 : decode cX10_init 214 = .ok (.aastore, 1) := by decide +kernel
theorem dX10_init_215 : decode cX10_init 215 = .ok (.iinc 1 1, 3) := by decide +kernel
theorem dX10_init_218 : decode cX10_init 218 = .ok (.goto (-21), 3) := by decide +kernel
theorem dX10_init_221 : decode cX10_init 221 = .ok (.return_, 1) := by decide +kernel
theorem dX10_life_0 : decode cX10_life 0 = .ok (.aload_n 0, 1) := by decide +kernel
theorem dX10_life_1 : decode cX10_life 1 = .ok (.aload_n 0, 1) := by decide +kernel
theorem dX10_life_2 : decode cX10_life 2 = .ok (.getfield 18, 3) := by decide +kernel
theorem dX10_life_5 : decode cX10_life 5 = .ok (.iload_n 1, 1) := by decide +kernel
theorem dX10_life_6 : decode cX10_life 6 = .ok (.invokevirtual 87, 3) := by decide +kernel
theorem dX10_life_9 : decode cX10_life 9 = .ok (.invokevirtual 91, 3) := by decide +kernel
theorem dX10_life_12 : decode cX10_life 12 = .ok (.ireturn, 1) := by decide +kernel
theorem dX10_day_0 : decode cX10_day 0 = .ok (.aload_n 0, 1) := by decide +kernel
theorem dX10_day_1 : decode cX10_day 1 = .ok (.aload_n 0, 1) := by decide +kernel
theorem dX10_day_2 : decode cX10_day 2 = .ok (.getfield 18, 3) := by decide +kernel
theorem dX10_day_5 : decode cX10_day 5 = .ok (.iload_n 1, 1) := by decide +kernel
theorem dX10_day_6 : decode cX10_day 6 = .ok (.iload_n 2, 1) := by decide +kernel
theorem dX10_day_7 : decode cX10_day 7 = .ok (.invokevirtual 94, 3) := by decide +kernel
theorem dX10_day_10 : decode cX10_day 10 = .ok (.invokevirtual 91, 3) := by decide +kernel
theorem dX10_day_13 : decode cX10_day 13 = .ok (.ireturn, 1) := by decide +kernel
theorem dX10_fact_0 : decode cX10_fact 0 = .ok (.aload_n 0, 1) := by decide +kernel
theorem dX10_fact_1 : decode cX10_fact 1 = .ok (.aload_n 0, 1) := by decide +kernel
theorem dX10_fact_2 : decode cX10_fact 2 = .ok (.getfield 18, 3) := by decide +kernel
theorem dX10_fact_5 : decode cX10_fact 5 = .ok (.iload_n 1, 1) := by decide +kernel
theorem dX10_fact_6 : decode cX10_fact 6 = .ok (.iload_n 2, 1) := by decide +kernel
theorem dX10_fact_7 : decode cX10_fact 7 = .ok (.iload_n 3, 1) := by decide +kernel
theorem dX10_fact_8 : decode cX10_fact 8 = .ok (.iload 4, 2) := by decide +kernel
theorem dX10_fact_10 : decode cX10_fact 10 = .ok (.invokevirtual 98, 3) := by decide +kernel
theorem dX10_fact_13 : decode cX10_fact 13 = .ok (.invokevirtual 91, 3) := by decide +kernel
theorem dX10_fact_16 : decode cX10_fact 16 = .ok (.ireturn, 1) := by decide +kernel
theorem dX10_note_0 : decode cX10_note 0 = .ok (.aload_n 0, 1) := by decide +kernel
theorem dX10_note_1 : decode cX10_note 1 = .ok (.aload_n 0, 1) := by decide +kernel
theorem dX10_note_2 : decode cX10_note 2 = .ok (.getfield 18, 3) := by decide +kernel
theorem dX10_note_5 : decode cX10_note 5 = .ok (.iload_n 1, 1) := by decide +kernel
theorem dX10_note_6 : decode cX10_note 6 = .ok (.iload_n 2, 1) := by decide +kernel
theorem dX10_note_7 : decode cX10_note 7 = .ok (.invokevirtual 102, 3) := by decide +kernel
theorem dX10_note_10 : decode cX10_note 10 = .ok (.invokevirtual 91, 3) := by decide +kernel
theorem dX10_note_13 : decode cX10_note 13 = .ok (.ireturn, 1) := by decide +kernel
theorem dX10_ahead_0 : decode cX10_ahead 0 = .ok (.aload_n 0, 1) := by decide +kernel
theorem dX10_ahead_1 : decode cX10_ahead 1 = .ok (.aload_n 0, 1) := by decide +kernel
theorem dX10_ahead_2 : decode cX10_ahead 2 = .ok (.getfield 18, 3) := by decide +kernel
theorem dX10_ahead_5 : decode cX10_ahead 5 = .ok (.iload_n 1, 1) := by decide +kernel
theorem dX10_ahead_6 : decode cX10_ahead 6 = .ok (.iload_n 2, 1) := by decide +kernel
theorem dX10_ahead_7 : decode cX10_ahead 7 = .ok (.invokevirtual 105, 3) := by decide +kernel
theorem dX10_ahead_10 : decode cX10_ahead 10 = .ok (.invokevirtual 91, 3) := by decide +kernel
theorem dX10_ahead_13 : decode cX10_ahead 13 = .ok (.ireturn, 1) := by decide +kernel
theorem dX10_at_0 : decode cX10_at 0 = .ok (.aload_n 0, 1) := by decide +kernel
theorem dX10_at_1 : decode cX10_at 1 = .ok (.getfield 18, 3) := by decide +kernel
theorem dX10_at_4 : decode cX10_at 4 = .ok (.iload_n 1, 1) := by decide +kernel
theorem dX10_at_5 : decode cX10_at 5 = .ok (.iload_n 2, 1) := by decide +kernel
theorem dX10_at_6 : decode cX10_at 6 = .ok (.invokevirtual 108, 3) := by decide +kernel
theorem dX10_at_9 : decode cX10_at 9 = .ok (.istore_n 3, 1) := by decide +kernel
theorem dX10_at_10 : decode cX10_at 10 = .ok (.iload_n 3, 1) := by decide +kernel
theorem dX10_at_11 : decode cX10_at 11 = .ok (.bipush (-2), 2) := by decide +kernel
theorem dX10_at_13 : decode cX10_at 13 = .ok (.if_icmp .ne 12, 3) := by decide +kernel
theorem dX10_at_16 : decode cX10_at 16 = .ok (.aload_n 0, 1) := by decide +kernel
theorem dX10_at_17 : decode cX10_at 17 = .ok (.bipush (-10), 2) := by decide +kernel
theorem dX10_at_19 : decode cX10_at 19 = .ok (.invokevirtual 111, 3) := by decide +kernel
theorem dX10_at_22 : decode cX10_at 22 = .ok (.goto 4, 3) := by decide +kernel
theorem dX10_at_25 : decode cX10_at 25 = .ok (.iload_n 3, 1) := by decide +kernel
theorem dX10_at_26 : decode cX10_at 26 = .ok (.ireturn, 1) := by decide +kernel
theorem dX10_tear_0 : decode cX10_tear 0 = .ok (.aload_n 0, 1) := by decide +kernel
theorem dX10_tear_1 : decode cX10_tear 1 = .ok (.aload_n 0, 1) := by decide +kernel
theorem dX10_tear_2 : decode cX10_tear 2 = .ok (.getfield 18, 3) := by decide +kernel
theorem dX10_tear_5 : decode cX10_tear 5 = .ok (.iload_n 1, 1) := by decide +kernel
theorem dX10_tear_6 : decode cX10_tear 6 = .ok (.invokevirtual 114, 3) := by decide +kernel
theorem dX10_tear_9 : decode cX10_tear 9 = .ok (.invokevirtual 91, 3) := by decide +kernel
theorem dX10_tear_12 : decode cX10_tear 12 = .ok (.ireturn, 1) := by decide +kernel
theorem dX10_order_0 : decode cX10_order 0 = .ok (.aload_n 0, 1) := by decide +kernel
theorem dX10_order_1 : decode cX10_order 1 = .ok (.aload_n 0, 1) := by decide +kernel
theorem dX10_order_2 : decode cX10_order 2 = .ok (.getfield 18, 3) := by decide +kernel
theorem dX10_order_5 : decode cX10_order 5 = .ok (.iload_n 1, 1) := by decide +kernel
theorem dX10_order_6 : decode cX10_order 6 = .ok (.invokevirtual 117, 3) := by decide +kernel
theorem dX10_order_9 : decode cX10_order 9 = .ok (.invokevirtual 91, 3) := by decide +kernel
theorem dX10_order_12 : decode cX10_order 12 = .ok (.ireturn, 1) := by decide +kernel
theorem dX10_type_0 : decode cX10_type 0 = .ok (.aload_n 0, 1) := by decide +kernel
theorem dX10_type_1 : decode cX10_type 1 = .ok (.aload_n 0, 1) := by decide +kernel
theorem dX10_type_2 : decode cX10_type 2 = .ok (.getfield 36, 3) := by decide +kernel
theorem dX10_type_5 : decode cX10_type 5 = .ok (.iload_n 1, 1) := by decide +kernel
theorem dX10_type_6 : decode cX10_type 6 = .ok (.invokevirtual 120, 3) := by decide +kernel
theorem dX10_type_9 : decode cX10_type 9 = .ok (.invokevirtual 91, 3) := by decide +kernel
theorem dX10_type_12 : decode cX10_type 12 = .ok (.ireturn, 1) := by decide +kernel
theorem dX10_clear_0 : decode cX10_clear 0 = .ok (.aload_n 0, 1) := by decide +kernel
theorem dX10_clear_1 : decode cX10_clear 1 = .ok (.getfield 36, 3) := by decide +kernel
theorem dX10_clear_4 : decode cX10_clear 4 = .ok (.getfield 123, 3) := by decide +kernel
theorem dX10_clear_7 : decode cX10_clear 7 = .ok (.istore_n 1, 1) := by decide +kernel
theorem dX10_clear_8 : decode cX10_clear 8 = .ok (.aload_n 0, 1) := by decide +kernel
theorem dX10_clear_9 : decode cX10_clear 9 = .ok (.getfield 36, 3) := by decide +kernel
theorem dX10_clear_12 : decode cX10_clear 12 = .ok (.iconst 0, 1) := by decide +kernel
theorem dX10_clear_13 : decode cX10_clear 13 = .ok (.putfield 123, 3) := by decide +kernel
theorem dX10_clear_16 : decode cX10_clear 16 = .ok (.iload_n 1, 1) := by decide +kernel
theorem dX10_clear_17 : decode cX10_clear 17 = .ok (.ireturn, 1) := by decide +kernel
theorem dX10_read_0 : decode cX10_read 0 = .ok (.aload_n 0, 1) := by decide +kernel
theorem dX10_read_1 : decode cX10_read 1 = .ok (.getfield 36, 3) := by decide +kernel
theorem dX10_read_4 : decode cX10_read 4 = .ok (.invokevirtual 127, 3) := by decide +kernel
theorem dX10_read_7 : decode cX10_read 7 = .ok (.istore_n 1, 1) := by decide +kernel
theorem dX10_read_8 : decode cX10_read 8 = .ok (.iload_n 1, 1) := by decide +kernel
theorem dX10_read_9 : decode cX10_read 9 = .ok (.iconst (-1), 1) := by decide +kernel
theorem dX10_read_10 : decode cX10_read 10 = .ok (.if_icmp .eq 8, 3) := by decide +kernel
theorem dX10_read_13 : decode cX10_read 13 = .ok (.bipush (-10), 2) := by decide +kernel
theorem dX10_read_15 : decode cX10_read 15 = .ok (.iload_n 1, 1) := by decide +kernel
theorem dX10_read_16 : decode cX10_read 16 = .ok (.isub, 1) := by decide +kernel
theorem dX10_read_17 : decode cX10_read 17 = .ok (.ireturn, 1) := by decide +kernel
theorem dX10_read_18 : decode cX10_read 18 = .ok (.aload_n 0, 1) := by decide +kernel
theorem dX10_read_19 : decode cX10_read 19 = .ok (.getfield 22, 3) := by decide +kernel
theorem dX10_read_22 : decode cX10_read 22 = .ok (.aload_n 0, 1) := by decide +kernel
theorem dX10_read_23 : decode cX10_read 23 = .ok (.getfield 18, 3) := by decide +kernel
theorem dX10_read_26 : decode cX10_read 26 = .ok (.invokevirtual 131, 3) := by decide +kernel
theorem dX10_read_29 : decode cX10_read 29 = .ok (.iconst 0, 1) := by decide +kernel
theorem dX10_read_30 : decode cX10_read 30 = .ok (.istore_n 2, 1) := by decide +kernel
theorem dX10_read_31 : decode cX10_read 31 = .ok (.iload_n 2, 1) := by decide +kernel
theorem dX10_read_32 : decode cX10_read 32 = .ok (.aload_n 0, 1) := by decide +kernel
theorem dX10_read_33 : decode cX10_read 33 = .ok (.getfield 36, 3) := by decide +kernel
theorem dX10_read_36 : decode cX10_read 36 = .ok (.getfield 135, 3) := by decide +kernel
theorem dX10_read_39 : decode cX10_read 39 = .ok (.if_icmp .ge 46, 3) := by decide +kernel
theorem dX10_read_42 : decode cX10_read 42 = .ok (.aload_n 0, 1) := by decide +kernel
theorem dX10_read_43 : decode cX10_read 43 = .ok (.getfield 18, 3) := by decide +kernel
theorem dX10_read_46 : decode cX10_read 46 = .ok (.aload_n 0, 1) := by decide +kernel
theorem dX10_read_47 : decode cX10_read 47 = .ok (.getfield 36, 3) := by decide +kernel
theorem dX10_read_50 : decode cX10_read 50 = .ok (.getfield 138, 3) := by decide +kernel
theorem dX10_read_53 : decode cX10_read 53 = .ok (.iload_n 2, 1) := by decide +kernel
theorem dX10_read_54 : decode cX10_read 54 = .ok (.iaload, 1) := by decide +kernel
theorem dX10_read_55 : decode cX10_read 55 = .ok (.invokevirtual 141, 3) := by decide +kernel
theorem dX10_read_58 : decode cX10_read 58 = .ok (.iconst (-1), 1) := by decide +kernel
theorem dX10_read_59 : decode cX10_read 59 = .ok (.if_icmp .ge 20, 3) := by decide +kernel
theorem dX10_read_62 : decode cX10_read 62 = .ok (.aload_n 0, 1) := by decide +kernel
theorem dX10_read_63 : decode cX10_read 63 = .ok (.getfield 18, 3) := by decide +kernel
theorem dX10_read_66 : decode cX10_read 66 = .ok (.aload_n 0, 1) := by decide +kernel
theorem dX10_read_67 : decode cX10_read 67 = .ok (.getfield 22, 3) := by decide +kernel
theorem dX10_read_70 : decode cX10_read 70 = .ok (.invokevirtual 131, 3) := by decide +kernel
theorem dX10_read_73 : decode cX10_read 73 = .ok (.sipush (-1000), 3) := by decide +kernel
theorem dX10_read_76 : decode cX10_read 76 = .ok (.iload_n 2, 1) := by decide +kernel
theorem dX10_read_77 : decode cX10_read 77 = .ok (.isub, 1) := by decide +kernel
theorem dX10_read_78 : decode cX10_read 78 = .ok (.ireturn, 1) := by decide +kernel
theorem dX10_read_79 : decode cX10_read 79 = .ok (.iinc 2 1, 3) := by decide +kernel
theorem dX10_read_82 : decode cX10_read 82 = .ok (.goto (-51), 3) := by decide +kernel
theorem dX10_read_85 : decode cX10_read 85 = .ok (.aload_n 0, 1) := by decide +kernel
theorem dX10_read_86 : decode cX10_read 86 = .ok (.getfield 36, 3) := by decide +kernel
theorem dX10_read_89 : decode cX10_read 89 = .ok (.getfield 135, 3) := by decide +kernel
theorem dX10_read_92 : decode cX10_read 92 = .ok (.ireturn, 1) := by decide +kernel
theorem dX10_lived_0 : decode cX10_lived 0 = .ok (.aload_n 0, 1) := by decide +kernel
theorem dX10_lived_1 : decode cX10_lived 1 = .ok (.getfield 18, 3) := by decide +kernel
theorem dX10_lived_4 : decode cX10_lived 4 = .ok (.iload_n 1, 1) := by decide +kernel
theorem dX10_lived_5 : decode cX10_lived 5 = .ok (.invokevirtual 144, 3) := by decide +kernel
theorem dX10_lived_8 : decode cX10_lived 8 = .ok (.ifCond .ne 10, 3) := by decide +kernel
theorem dX10_lived_11 : decode cX10_lived 11 = .ok (.aload_n 0, 1) := by decide +kernel
theorem dX10_lived_12 : decode cX10_lived 12 = .ok (.bipush (-2), 2) := by decide +kernel
theorem dX10_lived_14 : decode cX10_lived 14 = .ok (.invokevirtual 91, 3) := by decide +kernel
theorem dX10_lived_17 : decode cX10_lived 17 = .ok (.ireturn, 1) := by decide +kernel
theorem dX10_lived_18 : decode cX10_lived 18 = .ok (.aload_n 0, 1) := by decide +kernel
theorem dX10_lived_19 : decode cX10_lived 19 = .ok (.aload_n 0, 1) := by decide +kernel
theorem dX10_lived_20 : decode cX10_lived 20 = .ok (.getfield 18, 3) := by decide +kernel
theorem dX10_lived_23 : decode cX10_lived 23 = .ok (.getfield 148, 3) := by decide +kernel
theorem dX10_lived_26 : decode cX10_lived 26 = .ok (.invokevirtual 151, 3) := by decide +kernel
theorem dX10_lived_29 : decode cX10_lived 29 = .ok (.aload_n 0, 1) := by decide +kernel
theorem dX10_lived_30 : decode cX10_lived 30 = .ok (.getfield 43, 3) := by decide +kernel
theorem dX10_lived_33 : decode cX10_lived 33 = .ok (.getfield 155, 3) := by decide +kernel
theorem dX10_lived_36 : decode cX10_lived 36 = .ok (.iload_n 1, 1) := by decide +kernel
theorem dX10_lived_37 : decode cX10_lived 37 = .ok (.iaload, 1) := by decide +kernel
theorem dX10_lived_38 : decode cX10_lived 38 = .ok (.ireturn, 1) := by decide +kernel
theorem dX10_knows_0 : decode cX10_knows 0 = .ok (.aload_n 0, 1) := by decide +kernel
theorem dX10_knows_1 : decode cX10_knows 1 = .ok (.getfield 18, 3) := by decide +kernel
theorem dX10_knows_4 : decode cX10_knows 4 = .ok (.iload_n 1, 1) := by decide +kernel
theorem dX10_knows_5 : decode cX10_knows 5 = .ok (.invokevirtual 144, 3) := by decide +kernel
theorem dX10_knows_8 : decode cX10_knows 8 = .ok (.ifCond .ne 10, 3) := by decide +kernel
theorem dX10_knows_11 : decode cX10_knows 11 = .ok (.aload_n 0, 1) := by decide +kernel
theorem dX10_knows_12 : decode cX10_knows 12 = .ok (.bipush (-2), 2) := by decide +kernel
theorem dX10_knows_14 : decode cX10_knows 14 = .ok (.invokevirtual 91, 3) := by decide +kernel
theorem dX10_knows_17 : decode cX10_knows 17 = .ok (.ireturn, 1) := by decide +kernel
theorem dX10_knows_18 : decode cX10_knows 18 = .ok (.aload_n 0, 1) := by decide +kernel
theorem dX10_knows_19 : decode cX10_knows 19 = .ok (.aload_n 0, 1) := by decide +kernel
theorem dX10_knows_20 : decode cX10_knows 20 = .ok (.getfield 18, 3) := by decide +kernel
theorem dX10_knows_23 : decode cX10_knows 23 = .ok (.getfield 148, 3) := by decide +kernel
theorem dX10_knows_26 : decode cX10_knows 26 = .ok (.invokevirtual 151, 3) := by decide +kernel
theorem dX10_knows_29 : decode cX10_knows 29 = .ok (.aload_n 0, 1) := by decide +kernel
theorem dX10_knows_30 : decode cX10_knows 30 = .ok (.getfield 43, 3) := by decide +kernel
theorem dX10_knows_33 : decode cX10_knows 33 = .ok (.getfield 158, 3) := by decide +kernel
theorem dX10_knows_36 : decode cX10_knows 36 = .ok (.iload_n 1, 1) := by decide +kernel
theorem dX10_knows_37 : decode cX10_knows 37 = .ok (.iaload, 1) := by decide +kernel
theorem dX10_knows_38 : decode cX10_knows 38 = .ok (.ireturn, 1) := by decide +kernel
theorem dX10_reads_0 : decode cX10_reads 0 = .ok (.aload_n 0, 1) := by decide +kernel
theorem dX10_reads_1 : decode cX10_reads 1 = .ok (.getfield 18, 3) := by decide +kernel
theorem dX10_reads_4 : decode cX10_reads 4 = .ok (.iload_n 1, 1) := by decide +kernel
theorem dX10_reads_5 : decode cX10_reads 5 = .ok (.invokevirtual 144, 3) := by decide +kernel
theorem dX10_reads_8 : decode cX10_reads 8 = .ok (.ifCond .ne 10, 3) := by decide +kernel
theorem dX10_reads_11 : decode cX10_reads 11 = .ok (.aload_n 0, 1) := by decide +kernel
theorem dX10_reads_12 : decode cX10_reads 12 = .ok (.bipush (-2), 2) := by decide +kernel
theorem dX10_reads_14 : decode cX10_reads 14 = .ok (.invokevirtual 91, 3) := by decide +kernel
theorem dX10_reads_17 : decode cX10_reads 17 = .ok (.ireturn, 1) := by decide +kernel
theorem dX10_reads_18 : decode cX10_reads 18 = .ok (.aload_n 0, 1) := by decide +kernel
theorem dX10_reads_19 : decode cX10_reads 19 = .ok (.aload_n 0, 1) := by decide +kernel
theorem dX10_reads_20 : decode cX10_reads 20 = .ok (.getfield 18, 3) := by decide +kernel
theorem dX10_reads_23 : decode cX10_reads 23 = .ok (.getfield 148, 3) := by decide +kernel
theorem dX10_reads_26 : decode cX10_reads 26 = .ok (.invokevirtual 151, 3) := by decide +kernel
theorem dX10_reads_29 : decode cX10_reads 29 = .ok (.aload_n 0, 1) := by decide +kernel
theorem dX10_reads_30 : decode cX10_reads 30 = .ok (.getfield 43, 3) := by decide +kernel
theorem dX10_reads_33 : decode cX10_reads 33 = .ok (.getfield 161, 3) := by decide +kernel
theorem dX10_reads_36 : decode cX10_reads 36 = .ok (.iload_n 1, 1) := by decide +kernel
theorem dX10_reads_37 : decode cX10_reads 37 = .ok (.iaload, 1) := by decide +kernel
theorem dX10_reads_38 : decode cX10_reads 38 = .ok (.ireturn, 1) := by decide +kernel
theorem dX10_missing_0 : decode cX10_missing 0 = .ok (.aload_n 0, 1) := by decide +kernel
theorem dX10_missing_1 : decode cX10_missing 1 = .ok (.getfield 18, 3) := by decide +kernel
theorem dX10_missing_4 : decode cX10_missing 4 = .ok (.iload_n 1, 1) := by decide +kernel
theorem dX10_missing_5 : decode cX10_missing 5 = .ok (.invokevirtual 144, 3) := by decide +kernel
theorem dX10_missing_8 : decode cX10_missing 8 = .ok (.ifCond .ne 10, 3) := by decide +kernel
theorem dX10_missing_11 : decode cX10_missing 11 = .ok (.aload_n 0, 1) := by decide +kernel
theorem dX10_missing_12 : decode cX10_missing 12 = .ok (.bipush (-2), 2) := by decide +kernel
theorem dX10_missing_14 : decode cX10_missing 14 = .ok (.invokevirtual 91, 3) := by decide +kernel
theorem dX10_missing_17 : decode cX10_missing 17 = .ok (.ireturn, 1) := by decide +kernel
theorem dX10_missing_18 : decode cX10_missing 18 = .ok (.aload_n 0, 1) := by decide +kernel
theorem dX10_missing_19 : decode cX10_missing 19 = .ok (.aload_n 0, 1) := by decide +kernel
theorem dX10_missing_20 : decode cX10_missing 20 = .ok (.getfield 18, 3) := by decide +kernel
theorem dX10_missing_23 : decode cX10_missing 23 = .ok (.getfield 148, 3) := by decide +kernel
theorem dX10_missing_26 : decode cX10_missing 26 = .ok (.invokevirtual 151, 3) := by decide +kernel
theorem dX10_missing_29 : decode cX10_missing 29 = .ok (.aload_n 0, 1) := by decide +kernel
theorem dX10_missing_30 : decode cX10_missing 30 = .ok (.getfield 43, 3) := by decide +kernel
theorem dX10_missing_33 : decode cX10_missing 33 = .ok (.iload_n 1, 1) := by decide +kernel
theorem dX10_missing_34 : decode cX10_missing 34 = .ok (.invokevirtual 164, 3) := by decide +kernel
theorem dX10_missing_37 : decode cX10_missing 37 = .ok (.ireturn, 1) := by decide +kernel
theorem dX10_first_0 : decode cX10_first 0 = .ok (.iload_n 1, 1) := by decide +kernel
theorem dX10_first_1 : decode cX10_first 1 = .ok (.ifCond .lt 8, 3) := by decide +kernel
theorem dX10_first_4 : decode cX10_first 4 = .ok (.iload_n 1, 1) := by decide +kernel
theorem dX10_first_5 : decode cX10_first 5 = .ok (.iconst 1, 1) := by decide +kernel
theorem dX10_first_6 : decode cX10_first 6 = .ok (.if_icmp .le 10, 3) := by decide +kernel
theorem dX10_first_9 : decode cX10_first 9 = .ok (.aload_n 0, 1) := by decide +kernel
theorem dX10_first_10 : decode cX10_first 10 = .ok (.bipush (-2), 2) := by decide +kernel
theorem dX10_first_12 : decode cX10_first 12 = .ok (.invokevirtual 91, 3) := by decide +kernel
theorem dX10_first_15 : decode cX10_first 15 = .ok (.ireturn, 1) := by decide +kernel
theorem dX10_first_16 : decode cX10_first 16 = .ok (.aload_n 0, 1) := by decide +kernel
theorem dX10_first_17 : decode cX10_first 17 = .ok (.aload_n 0, 1) := by decide +kernel
theorem dX10_first_18 : decode cX10_first 18 = .ok (.getfield 18, 3) := by decide +kernel
theorem dX10_first_21 : decode cX10_first 21 = .ok (.getfield 148, 3) := by decide +kernel
theorem dX10_first_24 : decode cX10_first 24 = .ok (.invokevirtual 151, 3) := by decide +kernel
theorem dX10_first_27 : decode cX10_first 27 = .ok (.iload_n 1, 1) := by decide +kernel
theorem dX10_first_28 : decode cX10_first 28 = .ok (.ifCond .ne 13, 3) := by decide +kernel
theorem dX10_first_31 : decode cX10_first 31 = .ok (.aload_n 0, 1) := by decide +kernel
theorem dX10_first_32 : decode cX10_first 32 = .ok (.getfield 43, 3) := by decide +kernel
theorem dX10_first_35 : decode cX10_first 35 = .ok (.invokevirtual 167, 3) := by decide +kernel
theorem dX10_first_38 : decode cX10_first 38 = .ok (.goto 17, 3) := by decide +kernel
theorem dX10_first_41 : decode cX10_first 41 = .ok (.aload_n 0, 1) := by decide +kernel
theorem dX10_first_42 : decode cX10_first 42 = .ok (.getfield 43, 3) := by decide +kernel
theorem dX10_first_45 : decode cX10_first 45 = .ok (.aload_n 0, 1) := by decide +kernel
theorem dX10_first_46 : decode cX10_first 46 = .ok (.getfield 18, 3) := by decide +kernel
theorem dX10_first_49 : decode cX10_first 49 = .ok (.getfield 170, 3) := by decide +kernel
theorem dX10_first_52 : decode cX10_first 52 = .ok (.invokevirtual 173, 3) := by decide +kernel
theorem dX10_first_55 : decode cX10_first 55 = .ok (.ireturn, 1) := by decide +kernel
theorem dX10_cards_0 : decode cX10_cards 0 = .ok (.aload_n 0, 1) := by decide +kernel
theorem dX10_cards_1 : decode cX10_cards 1 = .ok (.getfield 18, 3) := by decide +kernel
theorem dX10_cards_4 : decode cX10_cards 4 = .ok (.iload_n 1, 1) := by decide +kernel
theorem dX10_cards_5 : decode cX10_cards 5 = .ok (.invokevirtual 144, 3) := by decide +kernel
theorem dX10_cards_8 : decode cX10_cards 8 = .ok (.ifCond .ne 10, 3) := by decide +kernel
theorem dX10_cards_11 : decode cX10_cards 11 = .ok (.aload_n 0, 1) := by decide +kernel
theorem dX10_cards_12 : decode cX10_cards 12 = .ok (.bipush (-2), 2) := by decide +kernel
theorem dX10_cards_14 : decode cX10_cards 14 = .ok (.invokevirtual 91, 3) := by decide +kernel
theorem dX10_cards_17 : decode cX10_cards 17 = .ok (.ireturn, 1) := by decide +kernel
theorem dX10_cards_18 : decode cX10_cards 18 = .ok (.aload_n 0, 1) := by decide +kernel
theorem dX10_cards_19 : decode cX10_cards 19 = .ok (.aload_n 0, 1) := by decide +kernel
theorem dX10_cards_20 : decode cX10_cards 20 = .ok (.getfield 18, 3) := by decide +kernel
theorem dX10_cards_23 : decode cX10_cards 23 = .ok (.getfield 148, 3) := by decide +kernel
theorem dX10_cards_26 : decode cX10_cards 26 = .ok (.invokevirtual 151, 3) := by decide +kernel
theorem dX10_cards_29 : decode cX10_cards 29 = .ok (.iconst 0, 1) := by decide +kernel
theorem dX10_cards_30 : decode cX10_cards 30 = .ok (.istore_n 2, 1) := by decide +kernel
theorem dX10_cards_31 : decode cX10_cards 31 = .ok (.iconst 0, 1) := by decide +kernel
theorem dX10_cards_32 : decode cX10_cards 32 = .ok (.istore_n 3, 1) := by decide +kernel
theorem dX10_cards_33 : decode cX10_cards 33 = .ok (.iload_n 3, 1) := by decide +kernel
theorem dX10_cards_34 : decode cX10_cards 34 = .ok (.iload_n 1, 1) := by decide +kernel
theorem dX10_cards_35 : decode cX10_cards 35 = .ok (.if_icmp .ge 21, 3) := by decide +kernel
theorem dX10_cards_38 : decode cX10_cards 38 = .ok (.iload_n 2, 1) := by decide +kernel
theorem dX10_cards_39 : decode cX10_cards 39 = .ok (.aload_n 0, 1) := by decide +kernel
theorem dX10_cards_40 : decode cX10_cards 40 = .ok (.getfield 43, 3) := by decide +kernel
theorem dX10_cards_43 : decode cX10_cards 43 = .ok (.getfield 158, 3) := by decide +kernel
theorem dX10_cards_46 : decode cX10_cards 46 = .ok (.iload_n 3, 1) := by decide +kernel
theorem dX10_cards_47 : decode cX10_cards 47 = .ok (.iaload, 1) := by decide +kernel
theorem dX10_cards_48 : decode cX10_cards 48 = .ok (.ior, 1) := by decide +kernel
theorem dX10_cards_49 : decode cX10_cards 49 = .ok (.istore_n 2, 1) := by decide +kernel
theorem dX10_cards_50 : decode cX10_cards 50 = .ok (.iinc 3 1, 3) := by decide +kernel
theorem dX10_cards_53 : decode cX10_cards 53 = .ok (.goto (-20), 3) := by decide +kernel
theorem dX10_cards_56 : decode cX10_cards 56 = .ok (.iload_n 2, 1) := by decide +kernel
theorem dX10_cards_57 : decode cX10_cards 57 = .ok (.aload_n 0, 1) := by decide +kernel
theorem dX10_cards_58 : decode cX10_cards 58 = .ok (.getfield 43, 3) := by decide +kernel
theorem dX10_cards_61 : decode cX10_cards 61 = .ok (.getfield 158, 3) := by decide +kernel
theorem dX10_cards_64 : decode cX10_cards 64 = .ok (.iload_n 1, 1) := by decide +kernel
theorem dX10_cards_65 : decode cX10_cards 65 = .ok (.iaload, 1) := by decide +kernel
theorem dX10_cards_66 : decode cX10_cards 66 = .ok (.iconst (-1), 1) := by decide +kernel
theorem dX10_cards_67 : decode cX10_cards 67 = .ok (.ixor, 1) := by decide +kernel
theorem dX10_cards_68 : decode cX10_cards 68 = .ok (.iand, 1) := by decide +kernel
theorem dX10_cards_69 : decode cX10_cards 69 = .ok (.ireturn, 1) := by decide +kernel
theorem dX10_hang_0 : decode cX10_hang 0 = .ok (.iload_n 1, 1) := by decide +kernel
theorem dX10_hang_1 : decode cX10_hang 1 = .ok (.iconst (-1), 1) := by decide +kernel
theorem dX10_hang_2 : decode cX10_hang 2 = .ok (.if_icmp .ge 10, 3) := by decide +kernel
theorem dX10_hang_5 : decode cX10_hang 5 = .ok (.aload_n 0, 1) := by decide +kernel
theorem dX10_hang_6 : decode cX10_hang 6 = .ok (.bipush (-10), 2) := by decide +kernel
theorem dX10_hang_8 : decode cX10_hang 8 = .ok (.invokevirtual 111, 3) := by decide +kernel
theorem dX10_hang_11 : decode cX10_hang 11 = .ok (.ireturn, 1) := by decide +kernel
theorem dX10_hang_12 : decode cX10_hang 12 = .ok (.iconst 0, 1) := by decide +kernel
theorem dX10_hang_13 : decode cX10_hang 13 = .ok (.istore_n 2, 1) := by decide +kernel
theorem dX10_hang_14 : decode cX10_hang 14 = .ok (.aload_n 0, 1) := by decide +kernel
theorem dX10_hang_15 : decode cX10_hang 15 = .ok (.iconst 0, 1) := by decide +kernel
theorem dX10_hang_16 : decode cX10_hang 16 = .ok (.invokevirtual 151, 3) := by decide +kernel
theorem dX10_hang_19 : decode cX10_hang 19 = .ok (.iconst 0, 1) := by decide +kernel
theorem dX10_hang_20 : decode cX10_hang 20 = .ok (.istore_n 3, 1) := by decide +kernel
theorem dX10_hang_21 : decode cX10_hang 21 = .ok (.iload_n 3, 1) := by decide +kernel
theorem dX10_hang_22 : decode cX10_hang 22 = .ok (.aload_n 0, 1) := by decide +kernel
theorem dX10_hang_23 : decode cX10_hang 23 = .ok (.getfield 18, 3) := by decide +kernel
theorem dX10_hang_26 : decode cX10_hang 26 = .ok (.invokevirtual 176, 3) := by decide +kernel
theorem dX10_hang_29 : decode cX10_hang 29 = .ok (.if_icmp .ge 33, 3) := by decide +kernel
theorem dX10_hang_32 : decode cX10_hang 32 = .ok (.aload_n 0, 1) := by decide +kernel
theorem dX10_hang_33 : decode cX10_hang 33 = .ok (.invokevirtual 179, 3) := by decide +kernel
theorem dX10_hang_36 : decode cX10_hang 36 = .ok (.ifCond .eq 13, 3) := by decide +kernel
theorem dX10_hang_39 : decode cX10_hang 39 = .ok (.iload_n 2, 1) := by decide +kernel
theorem dX10_hang_40 : decode cX10_hang 40 = .ok (.iload_n 1, 1) := by decide +kernel
theorem dX10_hang_41 : decode cX10_hang 41 = .ok (.if_icmp .ne 5, 3) := by decide +kernel
theorem dX10_hang_44 : decode cX10_hang 44 = .ok (.iload_n 3, 1) := by decide +kernel
theorem dX10_hang_45 : decode cX10_hang 45 = .ok (.ireturn, 1) := by decide +kernel
theorem dX10_hang_46 : decode cX10_hang 46 = .ok (.iinc 2 1, 3) := by decide +kernel
theorem dX10_hang_49 : decode cX10_hang 49 = .ok (.aload_n 0, 1) := by decide +kernel
theorem dX10_hang_50 : decode cX10_hang 50 = .ok (.getfield 43, 3) := by decide +kernel
theorem dX10_hang_53 : decode cX10_hang 53 = .ok (.invokevirtual 183, 3) := by decide +kernel
theorem dX10_hang_56 : decode cX10_hang 56 = .ok (.iinc 3 1, 3) := by decide +kernel
theorem dX10_hang_59 : decode cX10_hang 59 = .ok (.goto (-38), 3) := by decide +kernel
theorem dX10_hang_62 : decode cX10_hang 62 = .ok (.iload_n 1, 1) := by decide +kernel
theorem dX10_hang_63 : decode cX10_hang 63 = .ok (.iconst (-1), 1) := by decide +kernel
theorem dX10_hang_64 : decode cX10_hang 64 = .ok (.if_icmp .ne 7, 3) := by decide +kernel
theorem dX10_hang_67 : decode cX10_hang 67 = .ok (.iload_n 2, 1) := by decide +kernel
theorem dX10_hang_68 : decode cX10_hang 68 = .ok (.goto 5, 3) := by decide +kernel
theorem dX10_hang_71 : decode cX10_hang 71 = .ok (.bipush (-5), 2) := by decide +kernel
theorem dX10_hang_73 : decode cX10_hang 73 = .ok (.ireturn, 1) := by decide +kernel
theorem dX10_must_0 : decode cX10_must 0 = .ok (.aload_n 0, 1) := by decide +kernel
theorem dX10_must_1 : decode cX10_must 1 = .ok (.getfield 18, 3) := by decide +kernel
theorem dX10_must_4 : decode cX10_must 4 = .ok (.iload_n 1, 1) := by decide +kernel
theorem dX10_must_5 : decode cX10_must 5 = .ok (.invokevirtual 144, 3) := by decide +kernel
theorem dX10_must_8 : decode cX10_must 8 = .ok (.ifCond .ne 10, 3) := by decide +kernel
theorem dX10_must_11 : decode cX10_must 11 = .ok (.aload_n 0, 1) := by decide +kernel
theorem dX10_must_12 : decode cX10_must 12 = .ok (.bipush (-2), 2) := by decide +kernel
theorem dX10_must_14 : decode cX10_must 14 = .ok (.invokevirtual 91, 3) := by decide +kernel
theorem dX10_must_17 : decode cX10_must 17 = .ok (.ireturn, 1) := by decide +kernel
theorem dX10_must_18 : decode cX10_must 18 = .ok (.iconst (-1), 1) := by decide +kernel
theorem dX10_must_19 : decode cX10_must 19 = .ok (.istore_n 2, 1) := by decide +kernel
theorem dX10_must_20 : decode cX10_must 20 = .ok (.aload_n 0, 1) := by decide +kernel
theorem dX10_must_21 : decode cX10_must 21 = .ok (.iconst 0, 1) := by decide +kernel
theorem dX10_must_22 : decode cX10_must 22 = .ok (.invokevirtual 151, 3) := by decide +kernel
theorem dX10_must_25 : decode cX10_must 25 = .ok (.iconst 0, 1) := by decide +kernel
theorem dX10_must_26 : decode cX10_must 26 = .ok (.istore_n 3, 1) := by decide +kernel
theorem dX10_must_27 : decode cX10_must 27 = .ok (.iload_n 3, 1) := by decide +kernel
theorem dX10_must_28 : decode cX10_must 28 = .ok (.aload_n 0, 1) := by decide +kernel
theorem dX10_must_29 : decode cX10_must 29 = .ok (.getfield 18, 3) := by decide +kernel
theorem dX10_must_32 : decode cX10_must 32 = .ok (.invokevirtual 176, 3) := by decide +kernel
theorem dX10_must_35 : decode cX10_must 35 = .ok (.if_icmp .ge 48, 3) := by decide +kernel
theorem dX10_must_38 : decode cX10_must 38 = .ok (.aload_n 0, 1) := by decide +kernel
theorem dX10_must_39 : decode cX10_must 39 = .ok (.invokevirtual 179, 3) := by decide +kernel
theorem dX10_must_42 : decode cX10_must 42 = .ok (.ifCond .eq 28, 3) := by decide +kernel
theorem dX10_must_45 : decode cX10_must 45 = .ok (.aload_n 0, 1) := by decide +kernel
theorem dX10_must_46 : decode cX10_must 46 = .ok (.getfield 43, 3) := by decide +kernel
theorem dX10_must_49 : decode cX10_must 49 = .ok (.iload_n 1, 1) := by decide +kernel
theorem dX10_must_50 : decode cX10_must 50 = .ok (.invokevirtual 186, 3) := by decide +kernel
theorem dX10_must_53 : decode cX10_must 53 = .ok (.istore 4, 2) := by decide +kernel
theorem dX10_must_55 : decode cX10_must 55 = .ok (.iload_n 2, 1) := by decide +kernel
theorem dX10_must_56 : decode cX10_must 56 = .ok (.iconst (-1), 1) := by decide +kernel
theorem dX10_must_57 : decode cX10_must 57 = .ok (.if_icmp .ne 8, 3) := by decide +kernel
theorem dX10_must_60 : decode cX10_must 60 = .ok (.iload 4, 2) := by decide +kernel
theorem dX10_must_62 : decode cX10_must 62 = .ok (.goto 7, 3) := by decide +kernel
theorem dX10_must_65 : decode cX10_must 65 = .ok (.iload_n 2, 1) := by decide +kernel
theorem dX10_must_66 : decode cX10_must 66 = .ok (.iload 4, 2) := by decide +kernel
theorem dX10_must_68 : decode cX10_must 68 = .ok (.iand, 1) := by decide +kernel
theorem dX10_must_69 : decode cX10_must 69 = .ok (.istore_n 2, 1) := by decide +kernel
theorem dX10_must_70 : decode cX10_must 70 = .ok (.aload_n 0, 1) := by decide +kernel
theorem dX10_must_71 : decode cX10_must 71 = .ok (.getfield 43, 3) := by decide +kernel
theorem dX10_must_74 : decode cX10_must 74 = .ok (.invokevirtual 183, 3) := by decide +kernel
theorem dX10_must_77 : decode cX10_must 77 = .ok (.iinc 3 1, 3) := by decide +kernel
theorem dX10_must_80 : decode cX10_must 80 = .ok (.goto (-53), 3) := by decide +kernel
theorem dX10_must_83 : decode cX10_must 83 = .ok (.iload_n 2, 1) := by decide +kernel
theorem dX10_must_84 : decode cX10_must 84 = .ok (.iconst (-1), 1) := by decide +kernel
theorem dX10_must_85 : decode cX10_must 85 = .ok (.if_icmp .ne 12, 3) := by decide +kernel
theorem dX10_must_88 : decode cX10_must 88 = .ok (.aload_n 0, 1) := by decide +kernel
theorem dX10_must_89 : decode cX10_must 89 = .ok (.bipush (-3), 2) := by decide +kernel
theorem dX10_must_91 : decode cX10_must 91 = .ok (.invokevirtual 91, 3) := by decide +kernel
theorem dX10_must_94 : decode cX10_must 94 = .ok (.goto 4, 3) := by decide +kernel
theorem dX10_must_97 : decode cX10_must 97 = .ok (.iload_n 2, 1) := by decide +kernel
theorem dX10_must_98 : decode cX10_must 98 = .ok (.ireturn, 1) := by decide +kernel
theorem dX10_told_0 : decode cX10_told 0 = .ok (.aload_n 0, 1) := by decide +kernel
theorem dX10_told_1 : decode cX10_told 1 = .ok (.aload_n 0, 1) := by decide +kernel
theorem dX10_told_2 : decode cX10_told 2 = .ok (.getfield 18, 3) := by decide +kernel
theorem dX10_told_5 : decode cX10_told 5 = .ok (.iload_n 1, 1) := by decide +kernel
theorem dX10_told_6 : decode cX10_told 6 = .ok (.invokevirtual 189, 3) := by decide +kernel
theorem dX10_told_9 : decode cX10_told 9 = .ok (.invokevirtual 91, 3) := by decide +kernel
theorem dX10_told_12 : decode cX10_told 12 = .ok (.ireturn, 1) := by decide +kernel
theorem dX10_notes_0 : decode cX10_notes 0 = .ok (.iload_n 1, 1) := by decide +kernel
theorem dX10_notes_1 : decode cX10_notes 1 = .ok (.ifCond .lt 8, 3) := by decide +kernel
theorem dX10_notes_4 : decode cX10_notes 4 = .ok (.iload_n 1, 1) := by decide +kernel
theorem dX10_notes_5 : decode cX10_notes 5 = .ok (.iconst 2, 1) := by decide +kernel
theorem dX10_notes_6 : decode cX10_notes 6 = .ok (.if_icmp .le 10, 3) := by decide +kernel
theorem dX10_notes_9 : decode cX10_notes 9 = .ok (.aload_n 0, 1) := by decide +kernel
theorem dX10_notes_10 : decode cX10_notes 10 = .ok (.bipush (-10), 2) := by decide +kernel
theorem dX10_notes_12 : decode cX10_notes 12 = .ok (.invokevirtual 111, 3) := by decide +kernel
theorem dX10_notes_15 : decode cX10_notes 15 = .ok (.ireturn, 1) := by decide +kernel
theorem dX10_notes_16 : decode cX10_notes 16 = .ok (.aload_n 0, 1) := by decide +kernel
theorem dX10_notes_17 : decode cX10_notes 17 = .ok (.aload_n 0, 1) := by decide +kernel
theorem dX10_notes_18 : decode cX10_notes 18 = .ok (.getfield 18, 3) := by decide +kernel
theorem dX10_notes_21 : decode cX10_notes 21 = .ok (.getfield 148, 3) := by decide +kernel
theorem dX10_notes_24 : decode cX10_notes 24 = .ok (.invokevirtual 151, 3) := by decide +kernel
theorem dX10_notes_27 : decode cX10_notes 27 = .ok (.aload_n 0, 1) := by decide +kernel
theorem dX10_notes_28 : decode cX10_notes 28 = .ok (.getfield 50, 3) := by decide +kernel
theorem dX10_notes_31 : decode cX10_notes 31 = .ok (.aload_n 0, 1) := by decide +kernel
theorem dX10_notes_32 : decode cX10_notes 32 = .ok (.getfield 18, 3) := by decide +kernel
theorem dX10_notes_35 : decode cX10_notes 35 = .ok (.aload_n 0, 1) := by decide +kernel
theorem dX10_notes_36 : decode cX10_notes 36 = .ok (.getfield 43, 3) := by decide +kernel
theorem dX10_notes_39 : decode cX10_notes 39 = .ok (.invokevirtual 192, 3) := by decide +kernel
theorem dX10_notes_42 : decode cX10_notes 42 = .ok (.iload_n 1, 1) := by decide +kernel
theorem dX10_notes_43 : decode cX10_notes 43 = .ok (.ifCond .ne 11, 3) := by decide +kernel
theorem dX10_notes_46 : decode cX10_notes 46 = .ok (.aload_n 0, 1) := by decide +kernel
theorem dX10_notes_47 : decode cX10_notes 47 = .ok (.getfield 50, 3) := by decide +kernel
theorem dX10_notes_50 : decode cX10_notes 50 = .ok (.getfield 196, 3) := by decide +kernel
theorem dX10_notes_53 : decode cX10_notes 53 = .ok (.ireturn, 1) := by decide +kernel
theorem dX10_notes_54 : decode cX10_notes 54 = .ok (.iload_n 1, 1) := by decide +kernel
theorem dX10_notes_55 : decode cX10_notes 55 = .ok (.iconst 1, 1) := by decide +kernel
theorem dX10_notes_56 : decode cX10_notes 56 = .ok (.if_icmp .ne 13, 3) := by decide +kernel
theorem dX10_notes_59 : decode cX10_notes 59 = .ok (.aload_n 0, 1) := by decide +kernel
theorem dX10_notes_60 : decode cX10_notes 60 = .ok (.getfield 50, 3) := by decide +kernel
theorem dX10_notes_63 : decode cX10_notes 63 = .ok (.getfield 199, 3) := by decide +kernel
theorem dX10_notes_66 : decode cX10_notes 66 = .ok (.goto 10, 3) := by decide +kernel
theorem dX10_notes_69 : decode cX10_notes 69 = .ok (.aload_n 0, 1) := by decide +kernel
theorem dX10_notes_70 : decode cX10_notes 70 = .ok (.getfield 50, 3) := by decide +kernel
theorem dX10_notes_73 : decode cX10_notes 73 = .ok (.getfield 202, 3) := by decide +kernel
theorem dX10_notes_76 : decode cX10_notes 76 = .ok (.ireturn, 1) := by decide +kernel
theorem dX10_mean_0 : decode cX10_mean 0 = .ok (.lconst 0, 1) := by decide +kernel
theorem dX10_mean_1 : decode cX10_mean 1 = .ok (.lstore_n 1, 1) := by decide +kernel
theorem dX10_mean_2 : decode cX10_mean 2 = .ok (.lconst 0, 1) := by decide +kernel
theorem dX10_mean_3 : decode cX10_mean 3 = .ok (.lstore_n 3, 1) := by decide +kernel
theorem dX10_mean_4 : decode cX10_mean 4 = .ok (.aload_n 0, 1) := by decide +kernel
theorem dX10_mean_5 : decode cX10_mean 5 = .ok (.iconst 0, 1) := by decide +kernel
theorem dX10_mean_6 : decode cX10_mean 6 = .ok (.invokevirtual 151, 3) := by decide +kernel
theorem dX10_mean_9 : decode cX10_mean 9 = .ok (.iconst 0, 1) := by decide +kernel
theorem dX10_mean_10 : decode cX10_mean 10 = .ok (.istore 5, 2) := by decide +kernel
theorem dX10_mean_12 : decode cX10_mean 12 = .ok (.iload 5, 2) := by decide +kernel
theorem dX10_mean_14 : decode cX10_mean 14 = .ok (.aload_n 0, 1) := by decide +kernel
theorem dX10_mean_15 : decode cX10_mean 15 = .ok (.getfield 18, 3) := by decide +kernel
theorem dX10_mean_18 : decode cX10_mean 18 = .ok (.invokevirtual 176, 3) := by decide +kernel
theorem dX10_mean_21 : decode cX10_mean 21 = .ok (.if_icmp .ge 45, 3) := by decide +kernel
theorem dX10_mean_24 : decode cX10_mean 24 = .ok (.aload_n 0, 1) := by decide +kernel
theorem dX10_mean_25 : decode cX10_mean 25 = .ok (.invokevirtual 205, 3) := by decide +kernel
theorem dX10_mean_28 : decode cX10_mean 28 = .ok (.ifCond .eq 25, 3) := by decide +kernel
theorem dX10_mean_31 : decode cX10_mean 31 = .ok (.lload_n 1, 1) := by decide +kernel
theorem dX10_mean_32 : decode cX10_mean 32 = .ok (.aload_n 0, 1) := by decide +kernel
theorem dX10_mean_33 : decode cX10_mean 33 = .ok (.getfield 43, 3) := by decide +kernel
theorem dX10_mean_36 : decode cX10_mean 36 = .ok (.aload_n 0, 1) := by decide +kernel
theorem dX10_mean_37 : decode cX10_mean 37 = .ok (.getfield 18, 3) := by decide +kernel
theorem dX10_mean_40 : decode cX10_mean 40 = .ok (.getfield 170, 3) := by decide +kernel
theorem dX10_mean_43 : decode cX10_mean 43 = .ok (.invokevirtual 173, 3) := by decide +kernel
theorem dX10_mean_46 : decode cX10_mean 46 = .ok (.i2l, 1) := by decide +kernel
theorem dX10_mean_47 : decode cX10_mean 47 = .ok (.ladd, 1) := by decide +kernel
theorem dX10_mean_48 : decode cX10_mean 48 = .ok (.lstore_n 1, 1) := by decide +kernel
theorem dX10_mean_49 : decode cX10_mean 49 = .ok (.lload_n 3, 1) := by decide +kernel
theorem dX10_mean_50 : decode cX10_mean 50 = .ok (.lconst 1, 1) := by decide +kernel
theorem dX10_mean_51 : decode cX10_mean 51 = .ok (.ladd, 1) := by decide +kernel
theorem dX10_mean_52 : decode cX10_mean 52 = .ok (.lstore_n 3, 1) := by decide +kernel
theorem dX10_mean_53 : decode cX10_mean 53 = .ok (.aload_n 0, 1) := by decide +kernel
theorem dX10_mean_54 : decode cX10_mean 54 = .ok (.getfield 43, 3) := by decide +kernel
theorem dX10_mean_57 : decode cX10_mean 57 = .ok (.invokevirtual 183, 3) := by decide +kernel
theorem dX10_mean_60 : decode cX10_mean 60 = .ok (.iinc 5 1, 3) := by decide +kernel
theorem dX10_mean_63 : decode cX10_mean 63 = .ok (.goto (-51), 3) := by decide +kernel
theorem dX10_mean_66 : decode cX10_mean 66 = .ok (.lload_n 3, 1) := by decide +kernel
theorem dX10_mean_67 : decode cX10_mean 67 = .ok (.lconst 0, 1) := by decide +kernel
theorem dX10_mean_68 : decode cX10_mean 68 = .ok (.lcmp, 1) := by decide +kernel
theorem dX10_mean_69 : decode cX10_mean 69 = .ok (.ifCond .ne 10, 3) := by decide +kernel
theorem dX10_mean_72 : decode cX10_mean 72 = .ok (.aload_n 0, 1) := by decide +kernel
theorem dX10_mean_73 : decode cX10_mean 73 = .ok (.bipush (-3), 2) := by decide +kernel
theorem dX10_mean_75 : decode cX10_mean 75 = .ok (.invokevirtual 91, 3) := by decide +kernel
theorem dX10_mean_78 : decode cX10_mean 78 = .ok (.ireturn, 1) := by decide +kernel
theorem dX10_mean_79 : decode cX10_mean 79 = .ok (.aload_n 0, 1) := by decide +kernel
theorem dX10_mean_80 : decode cX10_mean 80 = .ok (.lload_n 1, 1) := by decide +kernel
theorem dX10_mean_81 : decode cX10_mean 81 = .ok (.lload_n 3, 1) := by decide +kernel
theorem dX10_mean_82 : decode cX10_mean 82 = .ok (.invokevirtual 208, 3) := by decide +kernel
theorem dX10_mean_85 : decode cX10_mean 85 = .ok (.iconst 1, 1) := by decide +kernel
theorem dX10_mean_86 : decode cX10_mean 86 = .ok (.ireturn, 1) := by decide +kernel
theorem dX10_best_0 : decode cX10_best 0 = .ok (.iconst (-1), 1) := by decide +kernel
theorem dX10_best_1 : decode cX10_best 1 = .ok (.istore_n 1, 1) := by decide +kernel
theorem dX10_best_2 : decode cX10_best 2 = .ok (.bipush (-3), 2) := by decide +kernel
theorem dX10_best_4 : decode cX10_best 4 = .ok (.istore_n 2, 1) := by decide +kernel
theorem dX10_best_5 : decode cX10_best 5 = .ok (.aload_n 0, 1) := by decide +kernel
theorem dX10_best_6 : decode cX10_best 6 = .ok (.iconst 0, 1) := by decide +kernel
theorem dX10_best_7 : decode cX10_best 7 = .ok (.invokevirtual 151, 3) := by decide +kernel
theorem dX10_best_10 : decode cX10_best 10 = .ok (.iconst 0, 1) := by decide +kernel
theorem dX10_best_11 : decode cX10_best 11 = .ok (.istore_n 3, 1) := by decide +kernel
theorem dX10_best_12 : decode cX10_best 12 = .ok (.iload_n 3, 1) := by decide +kernel
theorem dX10_best_13 : decode cX10_best 13 = .ok (.aload_n 0, 1) := by decide +kernel
theorem dX10_best_14 : decode cX10_best 14 = .ok (.getfield 18, 3) := by decide +kernel
theorem dX10_best_17 : decode cX10_best 17 = .ok (.invokevirtual 176, 3) := by decide +kernel
theorem dX10_best_20 : decode cX10_best 20 = .ok (.if_icmp .ge 54, 3) := by decide +kernel
theorem dX10_best_23 : decode cX10_best 23 = .ok (.aload_n 0, 1) := by decide +kernel
theorem dX10_best_24 : decode cX10_best 24 = .ok (.invokevirtual 205, 3) := by decide +kernel
theorem dX10_best_27 : decode cX10_best 27 = .ok (.ifCond .eq 20, 3) := by decide +kernel
theorem dX10_best_30 : decode cX10_best 30 = .ok (.aload_n 0, 1) := by decide +kernel
theorem dX10_best_31 : decode cX10_best 31 = .ok (.getfield 43, 3) := by decide +kernel
theorem dX10_best_34 : decode cX10_best 34 = .ok (.aload_n 0, 1) := by decide +kernel
theorem dX10_best_35 : decode cX10_best 35 = .ok (.getfield 18, 3) := by decide +kernel
theorem dX10_best_38 : decode cX10_best 38 = .ok (.getfield 170, 3) := by decide +kernel
theorem dX10_best_41 : decode cX10_best 41 = .ok (.invokevirtual 173, 3) := by decide +kernel
theorem dX10_best_44 : decode cX10_best 44 = .ok (.goto 4, 3) := by decide +kernel
theorem dX10_best_47 : decode cX10_best 47 = .ok (.iconst (-1), 1) := by decide +kernel
theorem dX10_best_48 : decode cX10_best 48 = .ok (.istore 4, 2) := by decide +kernel
theorem dX10_best_50 : decode cX10_best 50 = .ok (.iload 4, 2) := by decide +kernel
theorem dX10_best_52 : decode cX10_best 52 = .ok (.iload_n 1, 1) := by decide +kernel
theorem dX10_best_53 : decode cX10_best 53 = .ok (.if_icmp .le 8, 3) := by decide +kernel
theorem dX10_best_56 : decode cX10_best 56 = .ok (.iload 4, 2) := by decide +kernel
theorem dX10_best_58 : decode cX10_best 58 = .ok (.istore_n 1, 1) := by decide +kernel
theorem dX10_best_59 : decode cX10_best 59 = .ok (.iload_n 3, 1) := by decide +kernel
theorem dX10_best_60 : decode cX10_best 60 = .ok (.istore_n 2, 1) := by decide +kernel
theorem dX10_best_61 : decode cX10_best 61 = .ok (.aload_n 0, 1) := by decide +kernel
theorem dX10_best_62 : decode cX10_best 62 = .ok (.getfield 43, 3) := by decide +kernel
theorem dX10_best_65 : decode cX10_best 65 = .ok (.invokevirtual 183, 3) := by decide +kernel
theorem dX10_best_68 : decode cX10_best 68 = .ok (.iinc 3 1, 3) := by decide +kernel
theorem dX10_best_71 : decode cX10_best 71 = .ok (.goto (-59), 3) := by decide +kernel
theorem dX10_best_74 : decode cX10_best 74 = .ok (.aload_n 0, 1) := by decide +kernel
theorem dX10_best_75 : decode cX10_best 75 = .ok (.iload_n 2, 1) := by decide +kernel
theorem dX10_best_76 : decode cX10_best 76 = .ok (.invokevirtual 91, 3) := by decide +kernel
theorem dX10_best_79 : decode cX10_best 79 = .ok (.ireturn, 1) := by decide +kernel
theorem dX10_when_0 : decode cX10_when 0 = .ok (.aload_n 0, 1) := by decide +kernel
theorem dX10_when_1 : decode cX10_when 1 = .ok (.getfield 18, 3) := by decide +kernel
theorem dX10_when_4 : decode cX10_when 4 = .ok (.iload_n 1, 1) := by decide +kernel
theorem dX10_when_5 : decode cX10_when 5 = .ok (.invokevirtual 144, 3) := by decide +kernel
theorem dX10_when_8 : decode cX10_when 8 = .ok (.ifCond .eq 13, 3) := by decide +kernel
theorem dX10_when_11 : decode cX10_when 11 = .ok (.iload_n 2, 1) := by decide +kernel
theorem dX10_when_12 : decode cX10_when 12 = .ok (.ifCond .lt 9, 3) := by decide +kernel
theorem dX10_when_15 : decode cX10_when 15 = .ok (.iload_n 2, 1) := by decide +kernel
theorem dX10_when_16 : decode cX10_when 16 = .ok (.bipush 63, 2) := by decide +kernel
theorem dX10_when_18 : decode cX10_when 18 = .ok (.if_icmp .le 10, 3) := by decide +kernel
theorem dX10_when_21 : decode cX10_when 21 = .ok (.aload_n 0, 1) := by decide +kernel
theorem dX10_when_22 : decode cX10_when 22 = .ok (.bipush (-2), 2) := by decide +kernel
theorem dX10_when_24 : decode cX10_when 24 = .ok (.invokevirtual 91, 3) := by decide +kernel
theorem dX10_when_27 : decode cX10_when 27 = .ok (.ireturn, 1) := by decide +kernel
theorem dX10_when_28 : decode cX10_when 28 = .ok (.iconst 0, 1) := by decide +kernel
theorem dX10_when_29 : decode cX10_when 29 = .ok (.istore_n 3, 1) := by decide +kernel
theorem dX10_when_30 : decode cX10_when 30 = .ok (.aload_n 0, 1) := by decide +kernel
theorem dX10_when_31 : decode cX10_when 31 = .ok (.iconst 0, 1) := by decide +kernel
theorem dX10_when_32 : decode cX10_when 32 = .ok (.invokevirtual 151, 3) := by decide +kernel
theorem dX10_when_35 : decode cX10_when 35 = .ok (.iconst 0, 1) := by decide +kernel
theorem dX10_when_36 : decode cX10_when 36 = .ok (.istore 4, 2) := by decide +kernel
theorem dX10_when_38 : decode cX10_when 38 = .ok (.iload 4, 2) := by decide +kernel
theorem dX10_when_40 : decode cX10_when 40 = .ok (.aload_n 0, 1) := by decide +kernel
theorem dX10_when_41 : decode cX10_when 41 = .ok (.getfield 18, 3) := by decide +kernel
theorem dX10_when_44 : decode cX10_when 44 = .ok (.invokevirtual 176, 3) := by decide +kernel
theorem dX10_when_47 : decode cX10_when 47 = .ok (.if_icmp .ge 50, 3) := by decide +kernel
theorem dX10_when_50 : decode cX10_when 50 = .ok (.aload_n 0, 1) := by decide +kernel
theorem dX10_when_51 : decode cX10_when 51 = .ok (.invokevirtual 205, 3) := by decide +kernel
theorem dX10_when_54 : decode cX10_when 54 = .ok (.ifCond .eq 30, 3) := by decide +kernel
theorem dX10_when_57 : decode cX10_when 57 = .ok (.aload_n 0, 1) := by decide +kernel
theorem dX10_when_58 : decode cX10_when 58 = .ok (.getfield 43, 3) := by decide +kernel
theorem dX10_when_61 : decode cX10_when 61 = .ok (.getfield 158, 3) := by decide +kernel
theorem dX10_when_64 : decode cX10_when 64 = .ok (.iload_n 1, 1) := by decide +kernel
theorem dX10_when_65 : decode cX10_when 65 = .ok (.iaload, 1) := by decide +kernel
theorem dX10_when_66 : decode cX10_when 66 = .ok (.iload_n 2, 1) := by decide +kernel
theorem dX10_when_67 : decode cX10_when 67 = .ok (.if_icmp .ne 17, 3) := by decide +kernel
theorem dX10_when_70 : decode cX10_when 70 = .ok (.iload_n 3, 1) := by decide +kernel
theorem dX10_when_71 : decode cX10_when 71 = .ok (.iconst 1, 1) := by decide +kernel
theorem dX10_when_72 : decode cX10_when 72 = .ok (.aload_n 0, 1) := by decide +kernel
theorem dX10_when_73 : decode cX10_when 73 = .ok (.getfield 43, 3) := by decide +kernel
theorem dX10_when_76 : decode cX10_when 76 = .ok (.getfield 212, 3) := by decide +kernel
theorem dX10_when_79 : decode cX10_when 79 = .ok (.iload_n 1, 1) := by decide +kernel
theorem dX10_when_80 : decode cX10_when 80 = .ok (.iaload, 1) := by decide +kernel
theorem dX10_when_81 : decode cX10_when 81 = .ok (.ishl, 1) := by decide +kernel
theorem dX10_when_82 : decode cX10_when 82 = .ok (.ior, 1) := by decide +kernel
theorem dX10_when_83 : decode cX10_when 83 = .ok (.istore_n 3, 1) := by decide +kernel
theorem dX10_when_84 : decode cX10_when 84 = .ok (.aload_n 0, 1) := by decide +kernel
theorem dX10_when_85 : decode cX10_when 85 = .ok (.getfield 43, 3) := by decide +kernel
theorem dX10_when_88 : decode cX10_when 88 = .ok (.invokevirtual 183, 3) := by decide +kernel
theorem dX10_when_91 : decode cX10_when 91 = .ok (.iinc 4 1, 3) := by decide +kernel
theorem dX10_when_94 : decode cX10_when 94 = .ok (.goto (-56), 3) := by decide +kernel
theorem dX10_when_97 : decode cX10_when 97 = .ok (.iload_n 3, 1) := by decide +kernel
theorem dX10_when_98 : decode cX10_when 98 = .ok (.ireturn, 1) := by decide +kernel
theorem dX10_diary_0 : decode cX10_diary 0 = .ok (.aload_n 0, 1) := by decide +kernel
theorem dX10_diary_1 : decode cX10_diary 1 = .ok (.getfield 18, 3) := by decide +kernel
theorem dX10_diary_4 : decode cX10_diary 4 = .ok (.iload_n 1, 1) := by decide +kernel
theorem dX10_diary_5 : decode cX10_diary 5 = .ok (.iload_n 2, 1) := by decide +kernel
theorem dX10_diary_6 : decode cX10_diary 6 = .ok (.invokevirtual 215, 3) := by decide +kernel
theorem dX10_diary_9 : decode cX10_diary 9 = .ok (.istore_n 3, 1) := by decide +kernel
theorem dX10_diary_10 : decode cX10_diary 10 = .ok (.iload_n 3, 1) := by decide +kernel
theorem dX10_diary_11 : decode cX10_diary 11 = .ok (.bipush (-2), 2) := by decide +kernel
theorem dX10_diary_13 : decode cX10_diary 13 = .ok (.if_icmp .ne 12, 3) := by decide +kernel
theorem dX10_diary_16 : decode cX10_diary 16 = .ok (.aload_n 0, 1) := by decide +kernel
theorem dX10_diary_17 : decode cX10_diary 17 = .ok (.bipush (-10), 2) := by decide +kernel
theorem dX10_diary_19 : decode cX10_diary 19 = .ok (.invokevirtual 111, 3) := by decide +kernel
theorem dX10_diary_22 : decode cX10_diary 22 = .ok (.goto 4, 3) := by decide +kernel
theorem dX10_diary_25 : decode cX10_diary 25 = .ok (.iload_n 3, 1) := by decide +kernel
theorem dX10_diary_26 : decode cX10_diary 26 = .ok (.ireturn, 1) := by decide +kernel
theorem dX10_torn_0 : decode cX10_torn 0 = .ok (.iload_n 1, 1) := by decide +kernel
theorem dX10_torn_1 : decode cX10_torn 1 = .ok (.ifCond .lt 8, 3) := by decide +kernel
theorem dX10_torn_4 : decode cX10_torn 4 = .ok (.iload_n 1, 1) := by decide +kernel
theorem dX10_torn_5 : decode cX10_torn 5 = .ok (.iconst 1, 1) := by decide +kernel
theorem dX10_torn_6 : decode cX10_torn 6 = .ok (.if_icmp .le 10, 3) := by decide +kernel
theorem dX10_torn_9 : decode cX10_torn 9 = .ok (.aload_n 0, 1) := by decide +kernel
theorem dX10_torn_10 : decode cX10_torn 10 = .ok (.bipush (-10), 2) := by decide +kernel
theorem dX10_torn_12 : decode cX10_torn 12 = .ok (.invokevirtual 111, 3) := by decide +kernel
theorem dX10_torn_15 : decode cX10_torn 15 = .ok (.ireturn, 1) := by decide +kernel
theorem dX10_torn_16 : decode cX10_torn 16 = .ok (.iconst 0, 1) := by decide +kernel
theorem dX10_torn_17 : decode cX10_torn 17 = .ok (.istore_n 2, 1) := by decide +kernel
theorem dX10_torn_18 : decode cX10_torn 18 = .ok (.iconst (-1), 1) := by decide +kernel
theorem dX10_torn_19 : decode cX10_torn 19 = .ok (.istore_n 3, 1) := by decide +kernel
theorem dX10_torn_20 : decode cX10_torn 20 = .ok (.aload_n 0, 1) := by decide +kernel
theorem dX10_torn_21 : decode cX10_torn 21 = .ok (.iconst 0, 1) := by decide +kernel
theorem dX10_torn_22 : decode cX10_torn 22 = .ok (.invokevirtual 151, 3) := by decide +kernel
theorem dX10_torn_25 : decode cX10_torn 25 = .ok (.iconst 0, 1) := by decide +kernel
theorem dX10_torn_26 : decode cX10_torn 26 = .ok (.istore 4, 2) := by decide +kernel
theorem dX10_torn_28 : decode cX10_torn 28 = .ok (.iload 4, 2) := by decide +kernel
theorem dX10_torn_30 : decode cX10_torn 30 = .ok (.aload_n 0, 1) := by decide +kernel
theorem dX10_torn_31 : decode cX10_torn 31 = .ok (.getfield 18, 3) := by decide +kernel
theorem dX10_torn_34 : decode cX10_torn 34 = .ok (.invokevirtual 176, 3) := by decide +kernel
theorem dX10_torn_37 : decode cX10_torn 37 = .ok (.if_icmp .ge 50, 3) := by decide +kernel
theorem dX10_torn_40 : decode cX10_torn 40 = .ok (.aload_n 0, 1) := by decide +kernel
theorem dX10_torn_41 : decode cX10_torn 41 = .ok (.invokevirtual 205, 3) := by decide +kernel
theorem dX10_torn_44 : decode cX10_torn 44 = .ok (.ifCond .eq 30, 3) := by decide +kernel
theorem dX10_torn_47 : decode cX10_torn 47 = .ok (.aload_n 0, 1) := by decide +kernel
theorem dX10_torn_48 : decode cX10_torn 48 = .ok (.getfield 43, 3) := by decide +kernel
theorem dX10_torn_51 : decode cX10_torn 51 = .ok (.aload_n 0, 1) := by decide +kernel
theorem dX10_torn_52 : decode cX10_torn 52 = .ok (.getfield 18, 3) := by decide +kernel
theorem dX10_torn_55 : decode cX10_torn 55 = .ok (.getfield 218, 3) := by decide +kernel
theorem dX10_torn_58 : decode cX10_torn 58 = .ok (.invokevirtual 221, 3) := by decide +kernel
theorem dX10_torn_61 : decode cX10_torn 61 = .ok (.ifCond .eq 13, 3) := by decide +kernel
theorem dX10_torn_64 : decode cX10_torn 64 = .ok (.iload_n 2, 1) := by decide +kernel
theorem dX10_torn_65 : decode cX10_torn 65 = .ok (.ifCond .ne 6, 3) := by decide +kernel
theorem dX10_torn_68 : decode cX10_torn 68 = .ok (.iload 4, 2) := by decide +kernel
theorem dX10_torn_70 : decode cX10_torn 70 = .ok (.istore_n 3, 1) := by decide +kernel
theorem dX10_torn_71 : decode cX10_torn 71 = .ok (.iinc 2 1, 3) := by decide +kernel
theorem dX10_torn_74 : decode cX10_torn 74 = .ok (.aload_n 0, 1) := by decide +kernel
theorem dX10_torn_75 : decode cX10_torn 75 = .ok (.getfield 43, 3) := by decide +kernel
theorem dX10_torn_78 : decode cX10_torn 78 = .ok (.invokevirtual 183, 3) := by decide +kernel
theorem dX10_torn_81 : decode cX10_torn 81 = .ok (.iinc 4 1, 3) := by decide +kernel
theorem dX10_torn_84 : decode cX10_torn 84 = .ok (.goto (-56), 3) := by decide +kernel
theorem dX10_torn_87 : decode cX10_torn 87 = .ok (.iload_n 1, 1) := by decide +kernel
theorem dX10_torn_88 : decode cX10_torn 88 = .ok (.ifCond .ne 7, 3) := by decide +kernel
theorem dX10_torn_91 : decode cX10_torn 91 = .ok (.iload_n 2, 1) := by decide +kernel
theorem dX10_torn_92 : decode cX10_torn 92 = .ok (.goto 4, 3) := by decide +kernel
theorem dX10_torn_95 : decode cX10_torn 95 = .ok (.iload_n 3, 1) := by decide +kernel
theorem dX10_torn_96 : decode cX10_torn 96 = .ok (.ireturn, 1) := by decide +kernel
theorem dX10_promise_0 : decode cX10_promise 0 = .ok (.iload_n 1, 1) := by decide +kernel
theorem dX10_promise_1 : decode cX10_promise 1 = .ok (.invokestatic 225, 3) := by decide +kernel
theorem dX10_promise_4 : decode cX10_promise 4 = .ok (.ifCond .eq 30, 3) := by decide +kernel
theorem dX10_promise_7 : decode cX10_promise 7 = .ok (.aload_n 0, 1) := by decide +kernel
theorem dX10_promise_8 : decode cX10_promise 8 = .ok (.getfield 18, 3) := by decide +kernel
theorem dX10_promise_11 : decode cX10_promise 11 = .ok (.iload_n 2, 1) := by decide +kernel
theorem dX10_promise_12 : decode cX10_promise 12 = .ok (.invokevirtual 144, 3) := by decide +kernel
theorem dX10_promise_15 : decode cX10_promise 15 = .ok (.ifCond .eq 19, 3) := by decide +kernel
theorem dX10_promise_18 : decode cX10_promise 18 = .ok (.aload_n 0, 1) := by decide +kernel
theorem dX10_promise_19 : decode cX10_promise 19 = .ok (.getfield 18, 3) := by decide +kernel
theorem dX10_promise_22 : decode cX10_promise 22 = .ok (.iload_n 3, 1) := by decide +kernel
theorem dX10_promise_23 : decode cX10_promise 23 = .ok (.invokevirtual 144, 3) := by decide +kernel
theorem dX10_promise_26 : decode cX10_promise 26 = .ok (.ifCond .eq 8, 3) := by decide +kernel
theorem dX10_promise_29 : decode cX10_promise 29 = .ok (.iload_n 2, 1) := by decide +kernel
theorem dX10_promise_30 : decode cX10_promise 30 = .ok (.iload_n 3, 1) := by decide +kernel
theorem dX10_promise_31 : decode cX10_promise 31 = .ok (.if_icmp .ne 10, 3) := by decide +kernel
theorem dX10_promise_34 : decode cX10_promise 34 = .ok (.aload_n 0, 1) := by decide +kernel
theorem dX10_promise_35 : decode cX10_promise 35 = .ok (.bipush (-2), 2) := by decide +kernel
theorem dX10_promise_37 : decode cX10_promise 37 = .ok (.invokevirtual 91, 3) := by decide +kernel
theorem dX10_promise_40 : decode cX10_promise 40 = .ok (.ireturn, 1) := by decide +kernel
theorem dX10_promise_41 : decode cX10_promise 41 = .ok (.aload_n 0, 1) := by decide +kernel
theorem dX10_promise_42 : decode cX10_promise 42 = .ok (.iconst 0, 1) := by decide +kernel
theorem dX10_promise_43 : decode cX10_promise 43 = .ok (.invokevirtual 151, 3) := by decide +kernel
theorem dX10_promise_46 : decode cX10_promise 46 = .ok (.aload_n 0, 1) := by decide +kernel
theorem dX10_promise_47 : decode cX10_promise 47 = .ok (.getfield 43, 3) := by decide +kernel
theorem dX10_promise_50 : decode cX10_promise 50 = .ok (.aload_n 0, 1) := by decide +kernel
theorem dX10_promise_51 : decode cX10_promise 51 = .ok (.getfield 18, 3) := by decide +kernel
theorem dX10_promise_54 : decode cX10_promise 54 = .ok (.aload_n 0, 1) := by decide +kernel
theorem dX10_promise_55 : decode cX10_promise 55 = .ok (.getfield 11, 3) := by decide +kernel
theorem dX10_promise_58 : decode cX10_promise 58 = .ok (.iload_n 2, 1) := by decide +kernel
theorem dX10_promise_59 : decode cX10_promise 59 = .ok (.iconst 1, 1) := by decide +kernel
theorem dX10_promise_60 : decode cX10_promise 60 = .ok (.iload_n 1, 1) := by decide +kernel
theorem dX10_promise_61 : decode cX10_promise 61 = .ok (.ishl, 1) := by decide +kernel
theorem dX10_promise_62 : decode cX10_promise 62 = .ok (.invokevirtual 228, 3) := by decide +kernel
theorem dX10_promise_65 : decode cX10_promise 65 = .ok (.iconst 0, 1) := by decide +kernel
theorem dX10_promise_66 : decode cX10_promise 66 = .ok (.istore 4, 2) := by decide +kernel
theorem dX10_promise_68 : decode cX10_promise 68 = .ok (.iconst 0, 1) := by decide +kernel
theorem dX10_promise_69 : decode cX10_promise 69 = .ok (.istore 5, 2) := by decide +kernel
theorem dX10_promise_71 : decode cX10_promise 71 = .ok (.iload 5, 2) := by decide +kernel
theorem dX10_promise_73 : decode cX10_promise 73 = .ok (.aload_n 0, 1) := by decide +kernel
theorem dX10_promise_74 : decode cX10_promise 74 = .ok (.getfield 18, 3) := by decide +kernel
theorem dX10_promise_77 : decode cX10_promise 77 = .ok (.invokevirtual 176, 3) := by decide +kernel
theorem dX10_promise_80 : decode cX10_promise 80 = .ok (.if_icmp .ge 41, 3) := by decide +kernel
theorem dX10_promise_83 : decode cX10_promise 83 = .ok (.aload_n 0, 1) := by decide +kernel
theorem dX10_promise_84 : decode cX10_promise 84 = .ok (.getfield 43, 3) := by decide +kernel
theorem dX10_promise_87 : decode cX10_promise 87 = .ok (.invokevirtual 232, 3) := by decide +kernel
theorem dX10_promise_90 : decode cX10_promise 90 = .ok (.iload 4, 2) := by decide +kernel
theorem dX10_promise_92 : decode cX10_promise 92 = .ok (.aload_n 0, 1) := by decide +kernel
theorem dX10_promise_93 : decode cX10_promise 93 = .ok (.getfield 43, 3) := by decide +kernel
theorem dX10_promise_96 : decode cX10_promise 96 = .ok (.getfield 158, 3) := by decide +kernel
theorem dX10_promise_99 : decode cX10_promise 99 = .ok (.iload_n 3, 1) := by decide +kernel
theorem dX10_promise_100 : decode cX10_promise 100 = .ok (.iaload, 1) := by decide +kernel
theorem dX10_promise_101 : decode cX10_promise 101 = .ok (.iload_n 1, 1) := by decide +kernel
theorem dX10_promise_102 : decode cX10_promise 102 = .ok (.ishr, 1) := by decide +kernel
theorem dX10_promise_103 : decode cX10_promise 103 = .ok (.iconst 1, 1) := by decide +kernel
theorem dX10_promise_104 : decode cX10_promise 104 = .ok (.iand, 1) := by decide +kernel
theorem dX10_promise_105 : decode cX10_promise 105 = .ok (.iadd, 1) := by decide +kernel
theorem dX10_promise_106 : decode cX10_promise 106 = .ok (.istore 4, 2) := by decide +kernel
theorem dX10_promise_108 : decode cX10_promise 108 = .ok (.aload_n 0, 1) := by decide +kernel
theorem dX10_promise_109 : decode cX10_promise 109 = .ok (.getfield 43, 3) := by decide +kernel
theorem dX10_promise_112 : decode cX10_promise 112 = .ok (.invokevirtual 183, 3) := by decide +kernel
theorem dX10_promise_115 : decode cX10_promise 115 = .ok (.iinc 5 1, 3) := by decide +kernel
theorem dX10_promise_118 : decode cX10_promise 118 = .ok (.goto (-47), 3) := by decide +kernel
theorem dX10_promise_121 : decode cX10_promise 121 = .ok (.aload_n 0, 1) := by decide +kernel
theorem dX10_promise_122 : decode cX10_promise 122 = .ok (.iload 4, 2) := by decide +kernel
theorem dX10_promise_124 : decode cX10_promise 124 = .ok (.i2l, 1) := by decide +kernel
theorem dX10_promise_125 : decode cX10_promise 125 = .ok (.aload_n 0, 1) := by decide +kernel
theorem dX10_promise_126 : decode cX10_promise 126 = .ok (.getfield 18, 3) := by decide +kernel
theorem dX10_promise_129 : decode cX10_promise 129 = .ok (.invokevirtual 176, 3) := by decide +kernel
theorem dX10_promise_132 : decode cX10_promise 132 = .ok (.i2l, 1) := by decide +kernel
theorem dX10_promise_133 : decode cX10_promise 133 = .ok (.invokevirtual 208, 3) := by decide +kernel
theorem dX10_promise_136 : decode cX10_promise 136 = .ok (.iconst 1, 1) := by decide +kernel
theorem dX10_promise_137 : decode cX10_promise 137 = .ok (.ireturn, 1) := by decide +kernel
theorem dX10_other_0 : decode cX10_other 0 = .ok (.aload_n 0, 1) := by decide +kernel
theorem dX10_other_1 : decode cX10_other 1 = .ok (.aload_n 0, 1) := by decide +kernel
theorem dX10_other_2 : decode cX10_other 2 = .ok (.getfield 18, 3) := by decide +kernel
theorem dX10_other_5 : decode cX10_other 5 = .ok (.iload_n 1, 1) := by decide +kernel
theorem dX10_other_6 : decode cX10_other 6 = .ok (.invokevirtual 235, 3) := by decide +kernel
theorem dX10_other_9 : decode cX10_other 9 = .ok (.invokevirtual 91, 3) := by decide +kernel
theorem dX10_other_12 : decode cX10_other 12 = .ok (.ireturn, 1) := by decide +kernel
theorem dX10_two_0 : decode cX10_two 0 = .ok (.aload_n 0, 1) := by decide +kernel
theorem dX10_two_1 : decode cX10_two 1 = .ok (.getfield 18, 3) := by decide +kernel
theorem dX10_two_4 : decode cX10_two 4 = .ok (.iload_n 1, 1) := by decide +kernel
theorem dX10_two_5 : decode cX10_two 5 = .ok (.invokevirtual 144, 3) := by decide +kernel
theorem dX10_two_8 : decode cX10_two 8 = .ok (.ifCond .ne 10, 3) := by decide +kernel
theorem dX10_two_11 : decode cX10_two 11 = .ok (.aload_n 0, 1) := by decide +kernel
theorem dX10_two_12 : decode cX10_two 12 = .ok (.bipush (-2), 2) := by decide +kernel
theorem dX10_two_14 : decode cX10_two 14 = .ok (.invokevirtual 91, 3) := by decide +kernel
theorem dX10_two_17 : decode cX10_two 17 = .ok (.ireturn, 1) := by decide +kernel
theorem dX10_two_18 : decode cX10_two 18 = .ok (.aload_n 0, 1) := by decide +kernel
theorem dX10_two_19 : decode cX10_two 19 = .ok (.invokevirtual 238, 3) := by decide +kernel
theorem dX10_two_22 : decode cX10_two 22 = .ok (.aload_n 0, 1) := by decide +kernel
theorem dX10_two_23 : decode cX10_two 23 = .ok (.getfield 54, 3) := by decide +kernel
theorem dX10_two_26 : decode cX10_two 26 = .ok (.iload_n 1, 1) := by decide +kernel
theorem dX10_two_27 : decode cX10_two 27 = .ok (.iaload, 1) := by decide +kernel
theorem dX10_two_28 : decode cX10_two 28 = .ok (.ireturn, 1) := by decide +kernel
theorem dX10_settle_0 : decode cX10_settle 0 = .ok (.iload_n 1, 1) := by decide +kernel
theorem dX10_settle_1 : decode cX10_settle 1 = .ok (.invokestatic 225, 3) := by decide +kernel
theorem dX10_settle_4 : decode cX10_settle 4 = .ok (.ifCond .eq 12, 3) := by decide +kernel
theorem dX10_settle_7 : decode cX10_settle 7 = .ok (.iload_n 2, 1) := by decide +kernel
theorem dX10_settle_8 : decode cX10_settle 8 = .ok (.ifCond .lt 8, 3) := by decide +kernel
theorem dX10_settle_11 : decode cX10_settle 11 = .ok (.iload_n 2, 1) := by decide +kernel
theorem dX10_settle_12 : decode cX10_settle 12 = .ok (.iconst 1, 1) := by decide +kernel
theorem dX10_settle_13 : decode cX10_settle 13 = .ok (.if_icmp .le 10, 3) := by decide +kernel
theorem dX10_settle_16 : decode cX10_settle 16 = .ok (.aload_n 0, 1) := by decide +kernel
theorem dX10_settle_17 : decode cX10_settle 17 = .ok (.bipush (-10), 2) := by decide +kernel
theorem dX10_settle_19 : decode cX10_settle 19 = .ok (.invokevirtual 111, 3) := by decide +kernel
theorem dX10_settle_22 : decode cX10_settle 22 = .ok (.ireturn, 1) := by decide +kernel
theorem dX10_settle_23 : decode cX10_settle 23 = .ok (.aload_n 0, 1) := by decide +kernel
theorem dX10_settle_24 : decode cX10_settle 24 = .ok (.invokevirtual 238, 3) := by decide +kernel
theorem dX10_settle_27 : decode cX10_settle 27 = .ok (.iconst 0, 1) := by decide +kernel
theorem dX10_settle_28 : decode cX10_settle 28 = .ok (.istore_n 3, 1) := by decide +kernel
theorem dX10_settle_29 : decode cX10_settle 29 = .ok (.iconst (-1), 1) := by decide +kernel
theorem dX10_settle_30 : decode cX10_settle 30 = .ok (.istore 4, 2) := by decide +kernel
theorem dX10_settle_32 : decode cX10_settle 32 = .ok (.aload_n 0, 1) := by decide +kernel
theorem dX10_settle_33 : decode cX10_settle 33 = .ok (.getfield 18, 3) := by decide +kernel
theorem dX10_settle_36 : decode cX10_settle 36 = .ok (.getfield 170, 3) := by decide +kernel
theorem dX10_settle_39 : decode cX10_settle 39 = .ok (.iconst 1, 1) := by decide +kernel
theorem dX10_settle_40 : decode cX10_settle 40 = .ok (.isub, 1) := by decide +kernel
theorem dX10_settle_41 : decode cX10_settle 41 = .ok (.istore 5, 2) := by decide +kernel
theorem dX10_settle_43 : decode cX10_settle 43 = .ok (.iload 5, 2) := by decide +kernel
theorem dX10_settle_45 : decode cX10_settle 45 = .ok (.ifCond .lt 30, 3) := by decide +kernel
theorem dX10_settle_48 : decode cX10_settle 48 = .ok (.aload_n 0, 1) := by decide +kernel
theorem dX10_settle_49 : decode cX10_settle 49 = .ok (.getfield 54, 3) := by decide +kernel
theorem dX10_settle_52 : decode cX10_settle 52 = .ok (.iload 5, 2) := by decide +kernel
theorem dX10_settle_54 : decode cX10_settle 54 = .ok (.iaload, 1) := by decide +kernel
theorem dX10_settle_55 : decode cX10_settle 55 = .ok (.iload_n 1, 1) := by decide +kernel
theorem dX10_settle_56 : decode cX10_settle 56 = .ok (.ishr, 1) := by decide +kernel
theorem dX10_settle_57 : decode cX10_settle 57 = .ok (.iconst 1, 1) := by decide +kernel
theorem dX10_settle_58 : decode cX10_settle 58 = .ok (.iand, 1) := by decide +kernel
theorem dX10_settle_59 : decode cX10_settle 59 = .ok (.ifCond .eq 10, 3) := by decide +kernel
theorem dX10_settle_62 : decode cX10_settle 62 = .ok (.iinc 3 1, 3) := by decide +kernel
theorem dX10_settle_65 : decode cX10_settle 65 = .ok (.iload 5, 2) := by decide +kernel
theorem dX10_settle_67 : decode cX10_settle 67 = .ok (.istore 4, 2) := by decide +kernel
theorem dX10_settle_69 : decode cX10_settle 69 = .ok (.iinc 5 (-1), 3) := by decide +kernel
theorem dX10_settle_72 : decode cX10_settle 72 = .ok (.goto (-29), 3) := by decide +kernel
theorem dX10_settle_75 : decode cX10_settle 75 = .ok (.iload_n 2, 1) := by decide +kernel
theorem dX10_settle_76 : decode cX10_settle 76 = .ok (.ifCond .ne 7, 3) := by decide +kernel
theorem dX10_settle_79 : decode cX10_settle 79 = .ok (.iload_n 3, 1) := by decide +kernel
theorem dX10_settle_80 : decode cX10_settle 80 = .ok (.goto 5, 3) := by decide +kernel
theorem dX10_settle_83 : decode cX10_settle 83 = .ok (.iload 4, 2) := by decide +kernel
theorem dX10_settle_85 : decode cX10_settle 85 = .ok (.ireturn, 1) := by decide +kernel
theorem dX10_game_0 : decode cX10_game 0 = .ok (.iload_n 1, 1) := by decide +kernel
theorem dX10_game_1 : decode cX10_game 1 = .ok (.ifCond .lt 8, 3) := by decide +kernel
theorem dX10_game_4 : decode cX10_game 4 = .ok (.iload_n 1, 1) := by decide +kernel
theorem dX10_game_5 : decode cX10_game 5 = .ok (.iconst 1, 1) := by decide +kernel
theorem dX10_game_6 : decode cX10_game 6 = .ok (.if_icmp .le 10, 3) := by decide +kernel
theorem dX10_game_9 : decode cX10_game 9 = .ok (.aload_n 0, 1) := by decide +kernel
theorem dX10_game_10 : decode cX10_game 10 = .ok (.bipush (-100), 2) := by decide +kernel
theorem dX10_game_12 : decode cX10_game 12 = .ok (.invokevirtual 111, 3) := by decide +kernel
theorem dX10_game_15 : decode cX10_game 15 = .ok (.ireturn, 1) := by decide +kernel
theorem dX10_game_16 : decode cX10_game 16 = .ok (.iconst (-1), 1) := by decide +kernel
theorem dX10_game_17 : decode cX10_game 17 = .ok (.istore_n 2, 1) := by decide +kernel
theorem dX10_game_18 : decode cX10_game 18 = .ok (.iconst 1, 1) := by decide +kernel
theorem dX10_game_19 : decode cX10_game 19 = .ok (.aload_n 0, 1) := by decide +kernel
theorem dX10_game_20 : decode cX10_game 20 = .ok (.getfield 18, 3) := by decide +kernel
theorem dX10_game_23 : decode cX10_game 23 = .ok (.getfield 170, 3) := by decide +kernel
theorem dX10_game_26 : decode cX10_game 26 = .ok (.ishl, 1) := by decide +kernel
theorem dX10_game_27 : decode cX10_game 27 = .ok (.iconst 1, 1) := by decide +kernel
theorem dX10_game_28 : decode cX10_game 28 = .ok (.isub, 1) := by decide +kernel
theorem dX10_game_29 : decode cX10_game 29 = .ok (.istore_n 3, 1) := by decide +kernel
theorem dX10_game_30 : decode cX10_game 30 = .ok (.aload_n 0, 1) := by decide +kernel
theorem dX10_game_31 : decode cX10_game 31 = .ok (.getfield 58, 3) := by decide +kernel
theorem dX10_game_34 : decode cX10_game 34 = .ok (.iload_n 3, 1) := by decide +kernel
theorem dX10_game_35 : decode cX10_game 35 = .ok (.iconst 0, 1) := by decide +kernel
theorem dX10_game_36 : decode cX10_game 36 = .ok (.iastore, 1) := by decide +kernel
theorem dX10_game_37 : decode cX10_game 37 = .ok (.iload_n 3, 1) := by decide +kernel
theorem dX10_game_38 : decode cX10_game 38 = .ok (.iconst 1, 1) := by decide +kernel
theorem dX10_game_39 : decode cX10_game 39 = .ok (.isub, 1) := by decide +kernel
theorem dX10_game_40 : decode cX10_game 40 = .ok (.istore 4, 2) := by decide +kernel
theorem dX10_game_42 : decode cX10_game 42 = .ok (.iload 4, 2) := by decide +kernel
theorem dX10_game_44 : decode cX10_game 44 = .ok (.ifCond .lt 30, 3) := by decide +kernel
theorem dX10_game_47 : decode cX10_game 47 = .ok (.aload_n 0, 1) := by decide +kernel
theorem dX10_game_48 : decode cX10_game 48 = .ok (.iload 4, 2) := by decide +kernel
theorem dX10_game_50 : decode cX10_game 50 = .ok (.invokevirtual 241, 3) := by decide +kernel
theorem dX10_game_53 : decode cX10_game 53 = .ok (.istore_n 2, 1) := by decide +kernel
theorem dX10_game_54 : decode cX10_game 54 = .ok (.aload_n 0, 1) := by decide +kernel
theorem dX10_game_55 : decode cX10_game 55 = .ok (.getfield 58, 3) := by decide +kernel
theorem dX10_game_58 : decode cX10_game 58 = .ok (.iload 4, 2) := by decide +kernel
theorem dX10_game_60 : decode cX10_game 60 = .ok (.aload_n 0, 1) := by decide +kernel
theorem dX10_game_61 : decode cX10_game 61 = .ok (.iload 4, 2) := by decide +kernel
theorem dX10_game_63 : decode cX10_game 63 = .ok (.iload_n 2, 1) := by decide +kernel
theorem dX10_game_64 : decode cX10_game 64 = .ok (.invokevirtual 244, 3) := by decide +kernel
theorem dX10_game_67 : decode cX10_game 67 = .ok (.iastore, 1) := by decide +kernel
theorem dX10_game_68 : decode cX10_game 68 = .ok (.iinc 4 (-1), 3) := by decide +kernel
theorem dX10_game_71 : decode cX10_game 71 = .ok (.goto (-29), 3) := by decide +kernel
theorem dX10_game_74 : decode cX10_game 74 = .ok (.iload_n 1, 1) := by decide +kernel
theorem dX10_game_75 : decode cX10_game 75 = .ok (.ifCond .ne 12, 3) := by decide +kernel
theorem dX10_game_78 : decode cX10_game 78 = .ok (.aload_n 0, 1) := by decide +kernel
theorem dX10_game_79 : decode cX10_game 79 = .ok (.getfield 58, 3) := by decide +kernel
theorem dX10_game_82 : decode cX10_game 82 = .ok (.iconst 0, 1) := by decide +kernel
theorem dX10_game_83 : decode cX10_game 83 = .ok (.iaload, 1) := by decide +kernel
theorem dX10_game_84 : decode cX10_game 84 = .ok (.goto 4, 3) := by decide +kernel
theorem dX10_game_87 : decode cX10_game 87 = .ok (.iload_n 2, 1) := by decide +kernel
theorem dX10_game_88 : decode cX10_game 88 = .ok (.ireturn, 1) := by decide +kernel
theorem dX10_live_0 : decode cX10_live 0 = .ok (.aload_n 0, 1) := by decide +kernel
theorem dX10_live_1 : decode cX10_live 1 = .ok (.getfield 18, 3) := by decide +kernel
theorem dX10_live_4 : decode cX10_live 4 = .ok (.getfield 247, 3) := by decide +kernel
theorem dX10_live_7 : decode cX10_live 7 = .ok (.aload_n 0, 1) := by decide +kernel
theorem dX10_live_8 : decode cX10_live 8 = .ok (.getfield 18, 3) := by decide +kernel
theorem dX10_live_11 : decode cX10_live 11 = .ok (.getfield 170, 3) := by decide +kernel
theorem dX10_live_14 : decode cX10_live 14 = .ok (.if_icmp .lt 10, 3) := by decide +kernel
theorem dX10_live_17 : decode cX10_live 17 = .ok (.aload_n 0, 1) := by decide +kernel
theorem dX10_live_18 : decode cX10_live 18 = .ok (.bipush (-3), 2) := by decide +kernel
theorem dX10_live_20 : decode cX10_live 20 = .ok (.invokevirtual 91, 3) := by decide +kernel
theorem dX10_live_23 : decode cX10_live 23 = .ok (.ireturn, 1) := by decide +kernel
theorem dX10_live_24 : decode cX10_live 24 = .ok (.aload_n 0, 1) := by decide +kernel
theorem dX10_live_25 : decode cX10_live 25 = .ok (.aload_n 0, 1) := by decide +kernel
theorem dX10_live_26 : decode cX10_live 26 = .ok (.getfield 18, 3) := by decide +kernel
theorem dX10_live_29 : decode cX10_live 29 = .ok (.getfield 148, 3) := by decide +kernel
theorem dX10_live_32 : decode cX10_live 32 = .ok (.invokevirtual 151, 3) := by decide +kernel
theorem dX10_live_35 : decode cX10_live 35 = .ok (.aload_n 0, 1) := by decide +kernel
theorem dX10_live_36 : decode cX10_live 36 = .ok (.getfield 43, 3) := by decide +kernel
theorem dX10_live_39 : decode cX10_live 39 = .ok (.getfield 155, 3) := by decide +kernel
theorem dX10_live_42 : decode cX10_live 42 = .ok (.aload_n 0, 1) := by decide +kernel
theorem dX10_live_43 : decode cX10_live 43 = .ok (.getfield 18, 3) := by decide +kernel
theorem dX10_live_46 : decode cX10_live 46 = .ok (.getfield 247, 3) := by decide +kernel
theorem dX10_live_49 : decode cX10_live 49 = .ok (.iaload, 1) := by decide +kernel
theorem dX10_live_50 : decode cX10_live 50 = .ok (.istore_n 1, 1) := by decide +kernel
theorem dX10_live_51 : decode cX10_live 51 = .ok (.aload_n 0, 1) := by decide +kernel
theorem dX10_live_52 : decode cX10_live 52 = .ok (.getfield 18, 3) := by decide +kernel
theorem dX10_live_55 : decode cX10_live 55 = .ok (.dup, 1) := by decide +kernel
theorem dX10_live_56 : decode cX10_live 56 = .ok (.getfield 247, 3) := by decide +kernel
theorem dX10_live_59 : decode cX10_live 59 = .ok (.iconst 1, 1) := by decide +kernel
theorem dX10_live_60 : decode cX10_live 60 = .ok (.iadd, 1) := by decide +kernel
theorem dX10_live_61 : decode cX10_live 61 = .ok (.putfield 247, 3) := by decide +kernel
theorem dX10_live_64 : decode cX10_live 64 = .ok (.aload_n 0, 1) := by decide +kernel
theorem dX10_live_65 : decode cX10_live 65 = .ok (.getfield 43, 3) := by decide +kernel
theorem dX10_live_68 : decode cX10_live 68 = .ok (.iload_n 1, 1) := by decide +kernel
theorem dX10_live_69 : decode cX10_live 69 = .ok (.invokevirtual 164, 3) := by decide +kernel
theorem dX10_live_72 : decode cX10_live 72 = .ok (.ifCond .ne 7, 3) := by decide +kernel
theorem dX10_live_75 : decode cX10_live 75 = .ok (.iconst 1, 1) := by decide +kernel
theorem dX10_live_76 : decode cX10_live 76 = .ok (.goto 4, 3) := by decide +kernel
theorem dX10_live_79 : decode cX10_live 79 = .ok (.iconst 0, 1) := by decide +kernel
theorem dX10_live_80 : decode cX10_live 80 = .ok (.ireturn, 1) := by decide +kernel
theorem dX10_undo_0 : decode cX10_undo 0 = .ok (.aload_n 0, 1) := by decide +kernel
theorem dX10_undo_1 : decode cX10_undo 1 = .ok (.getfield 18, 3) := by decide +kernel
theorem dX10_undo_4 : decode cX10_undo 4 = .ok (.getfield 247, 3) := by decide +kernel
theorem dX10_undo_7 : decode cX10_undo 7 = .ok (.ifCond .gt 10, 3) := by decide +kernel
theorem dX10_undo_10 : decode cX10_undo 10 = .ok (.aload_n 0, 1) := by decide +kernel
theorem dX10_undo_11 : decode cX10_undo 11 = .ok (.bipush (-3), 2) := by decide +kernel
theorem dX10_undo_13 : decode cX10_undo 13 = .ok (.invokevirtual 91, 3) := by decide +kernel
theorem dX10_undo_16 : decode cX10_undo 16 = .ok (.ireturn, 1) := by decide +kernel
theorem dX10_undo_17 : decode cX10_undo 17 = .ok (.aload_n 0, 1) := by decide +kernel
theorem dX10_undo_18 : decode cX10_undo 18 = .ok (.getfield 18, 3) := by decide +kernel
theorem dX10_undo_21 : decode cX10_undo 21 = .ok (.dup, 1) := by decide +kernel
theorem dX10_undo_22 : decode cX10_undo 22 = .ok (.getfield 247, 3) := by decide +kernel
theorem dX10_undo_25 : decode cX10_undo 25 = .ok (.iconst 1, 1) := by decide +kernel
theorem dX10_undo_26 : decode cX10_undo 26 = .ok (.isub, 1) := by decide +kernel
theorem dX10_undo_27 : decode cX10_undo 27 = .ok (.putfield 247, 3) := by decide +kernel
theorem dX10_undo_30 : decode cX10_undo 30 = .ok (.aload_n 0, 1) := by decide +kernel
theorem dX10_undo_31 : decode cX10_undo 31 = .ok (.getfield 18, 3) := by decide +kernel
theorem dX10_undo_34 : decode cX10_undo 34 = .ok (.getfield 247, 3) := by decide +kernel
theorem dX10_undo_37 : decode cX10_undo 37 = .ok (.ireturn, 1) := by decide +kernel
theorem dX10_sofar_0 : decode cX10_sofar 0 = .ok (.iload_n 1, 1) := by decide +kernel
theorem dX10_sofar_1 : decode cX10_sofar 1 = .ok (.ifCond .lt 8, 3) := by decide +kernel
theorem dX10_sofar_4 : decode cX10_sofar 4 = .ok (.iload_n 1, 1) := by decide +kernel
theorem dX10_sofar_5 : decode cX10_sofar 5 = .ok (.iconst 2, 1) := by decide +kernel
theorem dX10_sofar_6 : decode cX10_sofar 6 = .ok (.if_icmp .le 10, 3) := by decide +kernel
theorem dX10_sofar_9 : decode cX10_sofar 9 = .ok (.aload_n 0, 1) := by decide +kernel
theorem dX10_sofar_10 : decode cX10_sofar 10 = .ok (.bipush (-2), 2) := by decide +kernel
theorem dX10_sofar_12 : decode cX10_sofar 12 = .ok (.invokevirtual 91, 3) := by decide +kernel
theorem dX10_sofar_15 : decode cX10_sofar 15 = .ok (.ireturn, 1) := by decide +kernel
theorem dX10_sofar_16 : decode cX10_sofar 16 = .ok (.iload_n 1, 1) := by decide +kernel
theorem dX10_sofar_17 : decode cX10_sofar 17 = .ok (.ifCond .ne 11, 3) := by decide +kernel
theorem dX10_sofar_20 : decode cX10_sofar 20 = .ok (.aload_n 0, 1) := by decide +kernel
theorem dX10_sofar_21 : decode cX10_sofar 21 = .ok (.getfield 18, 3) := by decide +kernel
theorem dX10_sofar_24 : decode cX10_sofar 24 = .ok (.getfield 247, 3) := by decide +kernel
theorem dX10_sofar_27 : decode cX10_sofar 27 = .ok (.ireturn, 1) := by decide +kernel
theorem dX10_sofar_28 : decode cX10_sofar 28 = .ok (.aload_n 0, 1) := by decide +kernel
theorem dX10_sofar_29 : decode cX10_sofar 29 = .ok (.aload_n 0, 1) := by decide +kernel
theorem dX10_sofar_30 : decode cX10_sofar 30 = .ok (.getfield 18, 3) := by decide +kernel
theorem dX10_sofar_33 : decode cX10_sofar 33 = .ok (.getfield 148, 3) := by decide +kernel
theorem dX10_sofar_36 : decode cX10_sofar 36 = .ok (.invokevirtual 151, 3) := by decide +kernel
theorem dX10_sofar_39 : decode cX10_sofar 39 = .ok (.iload_n 1, 1) := by decide +kernel
theorem dX10_sofar_40 : decode cX10_sofar 40 = .ok (.iconst 1, 1) := by decide +kernel
theorem dX10_sofar_41 : decode cX10_sofar 41 = .ok (.if_icmp .ne 20, 3) := by decide +kernel
theorem dX10_sofar_44 : decode cX10_sofar 44 = .ok (.aload_n 0, 1) := by decide +kernel
theorem dX10_sofar_45 : decode cX10_sofar 45 = .ok (.getfield 43, 3) := by decide +kernel
theorem dX10_sofar_48 : decode cX10_sofar 48 = .ok (.aload_n 0, 1) := by decide +kernel
theorem dX10_sofar_49 : decode cX10_sofar 49 = .ok (.getfield 18, 3) := by decide +kernel
theorem dX10_sofar_52 : decode cX10_sofar 52 = .ok (.getfield 247, 3) := by decide +kernel
theorem dX10_sofar_55 : decode cX10_sofar 55 = .ok (.invokevirtual 173, 3) := by decide +kernel
theorem dX10_sofar_58 : decode cX10_sofar 58 = .ok (.goto 17, 3) := by decide +kernel
theorem dX10_sofar_61 : decode cX10_sofar 61 = .ok (.aload_n 0, 1) := by decide +kernel
theorem dX10_sofar_62 : decode cX10_sofar 62 = .ok (.getfield 43, 3) := by decide +kernel
theorem dX10_sofar_65 : decode cX10_sofar 65 = .ok (.aload_n 0, 1) := by decide +kernel
theorem dX10_sofar_66 : decode cX10_sofar 66 = .ok (.getfield 18, 3) := by decide +kernel
theorem dX10_sofar_69 : decode cX10_sofar 69 = .ok (.getfield 247, 3) := by decide +kernel
theorem dX10_sofar_72 : decode cX10_sofar 72 = .ok (.invokevirtual 250, 3) := by decide +kernel
theorem dX10_sofar_75 : decode cX10_sofar 75 = .ok (.ireturn, 1) := by decide +kernel
theorem dX10_part_0 : decode cX10_part 0 = .ok (.iload_n 1, 1) := by decide +kernel
theorem dX10_part_1 : decode cX10_part 1 = .ok (.ifCond .lt 8, 3) := by decide +kernel
theorem dX10_part_4 : decode cX10_part 4 = .ok (.iload_n 1, 1) := by decide +kernel
theorem dX10_part_5 : decode cX10_part 5 = .ok (.iconst 1, 1) := by decide +kernel
theorem dX10_part_6 : decode cX10_part 6 = .ok (.if_icmp .le 11, 3) := by decide +kernel
theorem dX10_part_9 : decode cX10_part 9 = .ok (.aload_n 0, 1) := by decide +kernel
theorem dX10_part_10 : decode cX10_part 10 = .ok (.bipush (-2), 2) := by decide +kernel
theorem dX10_part_12 : decode cX10_part 12 = .ok (.invokevirtual 91, 3) := by decide +kernel
theorem dX10_part_15 : decode cX10_part 15 = .ok (.i2l, 1) := by decide +kernel
theorem dX10_part_16 : decode cX10_part 16 = .ok (.lreturn, 1) := by decide +kernel
theorem dX10_part_17 : decode cX10_part 17 = .ok (.iload_n 1, 1) := by decide +kernel
theorem dX10_part_18 : decode cX10_part 18 = .ok (.ifCond .ne 10, 3) := by decide +kernel
theorem dX10_part_21 : decode cX10_part 21 = .ok (.aload_n 0, 1) := by decide +kernel
theorem dX10_part_22 : decode cX10_part 22 = .ok (.getfield 64, 3) := by decide +kernel
theorem dX10_part_25 : decode cX10_part 25 = .ok (.goto 7, 3) := by decide +kernel
theorem dX10_part_28 : decode cX10_part 28 = .ok (.aload_n 0, 1) := by decide +kernel
theorem dX10_part_29 : decode cX10_part 29 = .ok (.getfield 68, 3) := by decide +kernel
theorem dX10_part_32 : decode cX10_part 32 = .ok (.lreturn, 1) := by decide +kernel
theorem dX10_image_0 : decode cX10_image 0 = .ok (.iload_n 1, 1) := by decide +kernel
theorem dX10_image_1 : decode cX10_image 1 = .ok (.ifCond .lt 8, 3) := by decide +kernel
theorem dX10_image_4 : decode cX10_image 4 = .ok (.iload_n 1, 1) := by decide +kernel
theorem dX10_image_5 : decode cX10_image 5 = .ok (.iconst 2, 1) := by decide +kernel
theorem dX10_image_6 : decode cX10_image 6 = .ok (.if_icmp .lt 10, 3) := by decide +kernel
theorem dX10_image_9 : decode cX10_image 9 = .ok (.aload_n 0, 1) := by decide +kernel
theorem dX10_image_10 : decode cX10_image 10 = .ok (.bipush (-2), 2) := by decide +kernel
theorem dX10_image_12 : decode cX10_image 12 = .ok (.invokevirtual 91, 3) := by decide +kernel
theorem dX10_image_15 : decode cX10_image 15 = .ok (.ireturn, 1) := by decide +kernel
theorem dX10_image_16 : decode cX10_image 16 = .ok (.aload_n 0, 1) := by decide +kernel
theorem dX10_image_17 : decode cX10_image 17 = .ok (.getfield 25, 3) := by decide +kernel
theorem dX10_image_20 : decode cX10_image 20 = .ok (.iload_n 1, 1) := by decide +kernel
theorem dX10_image_21 : decode cX10_image 21 = .ok (.aaload, 1) := by decide +kernel
theorem dX10_image_22 : decode cX10_image 22 = .ok (.aload_n 0, 1) := by decide +kernel
theorem dX10_image_23 : decode cX10_image 23 = .ok (.getfield 18, 3) := by decide +kernel
theorem dX10_image_26 : decode cX10_image 26 = .ok (.invokevirtual 131, 3) := by decide +kernel
theorem dX10_image_29 : decode cX10_image 29 = .ok (.aload_n 0, 1) := by decide +kernel
theorem dX10_image_30 : decode cX10_image 30 = .ok (.getfield 29, 3) := by decide +kernel
theorem dX10_image_33 : decode cX10_image 33 = .ok (.iload_n 1, 1) := by decide +kernel
theorem dX10_image_34 : decode cX10_image 34 = .ok (.iconst 1, 1) := by decide +kernel
theorem dX10_image_35 : decode cX10_image 35 = .ok (.bastore, 1) := by decide +kernel
theorem dX10_image_36 : decode cX10_image 36 = .ok (.iconst 1, 1) := by decide +kernel
theorem dX10_image_37 : decode cX10_image 37 = .ok (.ireturn, 1) := by decide +kernel
theorem dX10_from_0 : decode cX10_from 0 = .ok (.iload_n 1, 1) := by decide +kernel
theorem dX10_from_1 : decode cX10_from 1 = .ok (.ifCond .lt 8, 3) := by decide +kernel
theorem dX10_from_4 : decode cX10_from 4 = .ok (.iload_n 1, 1) := by decide +kernel
theorem dX10_from_5 : decode cX10_from 5 = .ok (.iconst 2, 1) := by decide +kernel
theorem dX10_from_6 : decode cX10_from 6 = .ok (.if_icmp .lt 10, 3) := by decide +kernel
theorem dX10_from_9 : decode cX10_from 9 = .ok (.aload_n 0, 1) := by decide +kernel
theorem dX10_from_10 : decode cX10_from 10 = .ok (.bipush (-2), 2) := by decide +kernel
theorem dX10_from_12 : decode cX10_from 12 = .ok (.invokevirtual 91, 3) := by decide +kernel
theorem dX10_from_15 : decode cX10_from 15 = .ok (.ireturn, 1) := by decide +kernel
theorem dX10_from_16 : decode cX10_from 16 = .ok (.aload_n 0, 1) := by decide +kernel
theorem dX10_from_17 : decode cX10_from 17 = .ok (.getfield 29, 3) := by decide +kernel
theorem dX10_from_20 : decode cX10_from 20 = .ok (.iload_n 1, 1) := by decide +kernel
theorem dX10_from_21 : decode cX10_from 21 = .ok (.baload, 1) := by decide +kernel
theorem dX10_from_22 : decode cX10_from 22 = .ok (.ifCond .ne 10, 3) := by decide +kernel
theorem dX10_from_25 : decode cX10_from 25 = .ok (.aload_n 0, 1) := by decide +kernel
theorem dX10_from_26 : decode cX10_from 26 = .ok (.bipush (-3), 2) := by decide +kernel
theorem dX10_from_28 : decode cX10_from 28 = .ok (.invokevirtual 91, 3) := by decide +kernel
theorem dX10_from_31 : decode cX10_from 31 = .ok (.ireturn, 1) := by decide +kernel
theorem dX10_from_32 : decode cX10_from 32 = .ok (.aload_n 0, 1) := by decide +kernel
theorem dX10_from_33 : decode cX10_from 33 = .ok (.getfield 18, 3) := by decide +kernel
theorem dX10_from_36 : decode cX10_from 36 = .ok (.aload_n 0, 1) := by decide +kernel
theorem dX10_from_37 : decode cX10_from 37 = .ok (.getfield 25, 3) := by decide +kernel
theorem dX10_from_40 : decode cX10_from 40 = .ok (.iload_n 1, 1) := by decide +kernel
theorem dX10_from_41 : decode cX10_from 41 = .ok (.aaload, 1) := by decide +kernel
theorem dX10_from_42 : decode cX10_from 42 = .ok (.invokevirtual 131, 3) := by decide +kernel
theorem dX10_from_45 : decode cX10_from 45 = .ok (.iconst 1, 1) := by decide +kernel
theorem dX10_from_46 : decode cX10_from 46 = .ok (.ireturn, 1) := by decide +kernel
theorem dX10_status_0 : decode cX10_status 0 = .ok (.iload_n 1, 1) := by decide +kernel
theorem dX10_status_1 : decode cX10_status 1 = .ok (.ifCond .lt 12, 3) := by decide +kernel
theorem dX10_status_4 : decode cX10_status 4 = .ok (.iload_n 1, 1) := by decide +kernel
theorem dX10_status_5 : decode cX10_status 5 = .ok (.aload_n 0, 1) := by decide +kernel
theorem dX10_status_6 : decode cX10_status 6 = .ok (.getfield 61, 3) := by decide +kernel
theorem dX10_status_9 : decode cX10_status 9 = .ok (.arraylength, 1) := by decide +kernel
theorem dX10_status_10 : decode cX10_status 10 = .ok (.if_icmp .lt 9, 3) := by decide +kernel
theorem dX10_status_13 : decode cX10_status 13 = .ok (.aload_n 0, 1) := by decide +kernel
theorem dX10_status_14 : decode cX10_status 14 = .ok (.iconst (-1), 1) := by decide +kernel
theorem dX10_status_15 : decode cX10_status 15 = .ok (.invokevirtual 111, 3) := by decide +kernel
theorem dX10_status_18 : decode cX10_status 18 = .ok (.ireturn, 1) := by decide +kernel
theorem dX10_status_19 : decode cX10_status 19 = .ok (.aload_n 0, 1) := by decide +kernel
theorem dX10_status_20 : decode cX10_status 20 = .ok (.getfield 61, 3) := by decide +kernel
theorem dX10_status_23 : decode cX10_status 23 = .ok (.iload_n 1, 1) := by decide +kernel
theorem dX10_status_24 : decode cX10_status 24 = .ok (.iaload, 1) := by decide +kernel
theorem dX10_status_25 : decode cX10_status 25 = .ok (.ireturn, 1) := by decide +kernel
theorem dX10_count_0 : decode cX10_count 0 = .ok (.aload_n 0, 1) := by decide +kernel
theorem dX10_count_1 : decode cX10_count 1 = .ok (.aload_n 0, 1) := by decide +kernel
theorem dX10_count_2 : decode cX10_count 2 = .ok (.iload_n 1, 1) := by decide +kernel
theorem dX10_count_3 : decode cX10_count 3 = .ok (.invokevirtual 253, 3) := by decide +kernel
theorem dX10_count_6 : decode cX10_count 6 = .ok (.invokevirtual 91, 3) := by decide +kernel
theorem dX10_count_9 : decode cX10_count 9 = .ok (.ireturn, 1) := by decide +kernel
theorem dX10_digest_0 : decode cX10_digest 0 = .ok (.ldc2_w 256, 3) := by decide +kernel
theorem dX10_digest_3 : decode cX10_digest 3 = .ok (.lstore_n 1, 1) := by decide +kernel
theorem dX10_digest_4 : decode cX10_digest 4 = .ok (.iconst 0, 1) := by decide +kernel
theorem dX10_digest_5 : decode cX10_digest 5 = .ok (.istore_n 3, 1) := by decide +kernel
theorem dX10_digest_6 : decode cX10_digest 6 = .ok (.iload_n 3, 1) := by decide +kernel
theorem dX10_digest_7 : decode cX10_digest 7 = .ok (.bipush 6, 2) := by decide +kernel
theorem dX10_digest_9 : decode cX10_digest 9 = .ok (.if_icmp .gt 22, 3) := by decide +kernel
theorem dX10_digest_12 : decode cX10_digest 12 = .ok (.ldc2_w 258, 3) := by decide +kernel
theorem dX10_digest_15 : decode cX10_digest 15 = .ok (.lload_n 1, 1) := by decide +kernel
theorem dX10_digest_16 : decode cX10_digest 16 = .ok (.lmul, 1) := by decide +kernel
theorem dX10_digest_17 : decode cX10_digest 17 = .ok (.aload_n 0, 1) := by decide +kernel
theorem dX10_digest_18 : decode cX10_digest 18 = .ok (.iload_n 3, 1) := by decide +kernel
theorem dX10_digest_19 : decode cX10_digest 19 = .ok (.invokevirtual 253, 3) := by decide +kernel
theorem dX10_digest_22 : decode cX10_digest 22 = .ok (.i2l, 1) := by decide +kernel
theorem dX10_digest_23 : decode cX10_digest 23 = .ok (.ladd, 1) := by decide +kernel
theorem dX10_digest_24 : decode cX10_digest 24 = .ok (.lstore_n 1, 1) := by decide +kernel
theorem dX10_digest_25 : decode cX10_digest 25 = .ok (.iinc 3 1, 3) := by decide +kernel
theorem dX10_digest_28 : decode cX10_digest 28 = .ok (.goto (-22), 3) := by decide +kernel
theorem dX10_digest_31 : decode cX10_digest 31 = .ok (.aload_n 0, 1) := by decide +kernel
theorem dX10_digest_32 : decode cX10_digest 32 = .ok (.getfield 18, 3) := by decide +kernel
theorem dX10_digest_35 : decode cX10_digest 35 = .ok (.lload_n 1, 1) := by decide +kernel
theorem dX10_digest_36 : decode cX10_digest 36 = .ok (.invokevirtual 260, 3) := by decide +kernel
theorem dX10_digest_39 : decode cX10_digest 39 = .ok (.lstore_n 1, 1) := by decide +kernel
theorem dX10_digest_40 : decode cX10_digest 40 = .ok (.aload_n 0, 1) := by decide +kernel
theorem dX10_digest_41 : decode cX10_digest 41 = .ok (.getfield 18, 3) := by decide +kernel
theorem dX10_digest_44 : decode cX10_digest 44 = .ok (.lload_n 1, 1) := by decide +kernel
theorem dX10_digest_45 : decode cX10_digest 45 = .ok (.invokevirtual 264, 3) := by decide +kernel
theorem dX10_digest_48 : decode cX10_digest 48 = .ok (.lstore_n 1, 1) := by decide +kernel
theorem dX10_digest_49 : decode cX10_digest 49 = .ok (.ldc2_w 258, 3) := by decide +kernel
theorem dX10_digest_52 : decode cX10_digest 52 = .ok (.lload_n 1, 1) := by decide +kernel
theorem dX10_digest_53 : decode cX10_digest 53 = .ok (.lmul, 1) := by decide +kernel
theorem dX10_digest_54 : decode cX10_digest 54 = .ok (.aload_n 0, 1) := by decide +kernel
theorem dX10_digest_55 : decode cX10_digest 55 = .ok (.getfield 64, 3) := by decide +kernel
theorem dX10_digest_58 : decode cX10_digest 58 = .ok (.ladd, 1) := by decide +kernel
theorem dX10_digest_59 : decode cX10_digest 59 = .ok (.lstore_n 1, 1) := by decide +kernel
theorem dX10_digest_60 : decode cX10_digest 60 = .ok (.ldc2_w 258, 3) := by decide +kernel
theorem dX10_digest_63 : decode cX10_digest 63 = .ok (.lload_n 1, 1) := by decide +kernel
theorem dX10_digest_64 : decode cX10_digest 64 = .ok (.lmul, 1) := by decide +kernel
theorem dX10_digest_65 : decode cX10_digest 65 = .ok (.aload_n 0, 1) := by decide +kernel
theorem dX10_digest_66 : decode cX10_digest 66 = .ok (.getfield 68, 3) := by decide +kernel
theorem dX10_digest_69 : decode cX10_digest 69 = .ok (.ladd, 1) := by decide +kernel
theorem dX10_digest_70 : decode cX10_digest 70 = .ok (.lreturn, 1) := by decide +kernel
theorem dX10_counted_0 : decode cX10_counted 0 = .ok (.iload_n 1, 1) := by decide +kernel
theorem dX10_counted_1 : decode cX10_counted 1 = .ok (.bipush (-2), 2) := by decide +kernel
theorem dX10_counted_3 : decode cX10_counted 3 = .ok (.if_icmp .gt 22, 3) := by decide +kernel
theorem dX10_counted_6 : decode cX10_counted 6 = .ok (.iload_n 1, 1) := by decide +kernel
theorem dX10_counted_7 : decode cX10_counted 7 = .ok (.bipush (-4), 2) := by decide +kernel
theorem dX10_counted_9 : decode cX10_counted 9 = .ok (.if_icmp .lt 16, 3) := by decide +kernel
theorem dX10_counted_12 : decode cX10_counted 12 = .ok (.aload_n 0, 1) := by decide +kernel
theorem dX10_counted_13 : decode cX10_counted 13 = .ok (.getfield 61, 3) := by decide +kernel
theorem dX10_counted_16 : decode cX10_counted 16 = .ok (.bipush (-2), 2) := by decide +kernel
theorem dX10_counted_18 : decode cX10_counted 18 = .ok (.iload_n 1, 1) := by decide +kernel
theorem dX10_counted_19 : decode cX10_counted 19 = .ok (.isub, 1) := by decide +kernel
theorem dX10_counted_20 : decode cX10_counted 20 = .ok (.dup2, 1) := by decide +kernel
theorem dX10_counted_21 : decode cX10_counted 21 = .ok (.iaload, 1) := by decide +kernel
theorem dX10_counted_22 : decode cX10_counted 22 = .ok (.iconst 1, 1) := by decide +kernel
theorem dX10_counted_23 : decode cX10_counted 23 = .ok (.iadd, 1) := by decide +kernel
theorem dX10_counted_24 : decode cX10_counted 24 = .ok (.iastore, 1) := by decide +kernel
theorem dX10_counted_25 : decode cX10_counted 25 = .ok (.iload_n 1, 1) := by decide +kernel
theorem dX10_counted_26 : decode cX10_counted 26 = .ok (.ireturn, 1) := by decide +kernel
theorem dX10_badAs_0 : decode cX10_badAs 0 = .ok (.aload_n 0, 1) := by decide +kernel
theorem dX10_badAs_1 : decode cX10_badAs 1 = .ok (.getfield 61, 3) := by decide +kernel
theorem dX10_badAs_4 : decode cX10_badAs 4 = .ok (.iconst 0, 1) := by decide +kernel
theorem dX10_badAs_5 : decode cX10_badAs 5 = .ok (.dup2, 1) := by decide +kernel
theorem dX10_badAs_6 : decode cX10_badAs 6 = .ok (.iaload, 1) := by decide +kernel
theorem dX10_badAs_7 : decode cX10_badAs 7 = .ok (.iconst 1, 1) := by decide +kernel
theorem dX10_badAs_8 : decode cX10_badAs 8 = .ok (.iadd, 1) := by decide +kernel
theorem dX10_badAs_9 : decode cX10_badAs 9 = .ok (.iastore, 1) := by decide +kernel
theorem dX10_badAs_10 : decode cX10_badAs 10 = .ok (.iload_n 1, 1) := by decide +kernel
theorem dX10_badAs_11 : decode cX10_badAs 11 = .ok (.ireturn, 1) := by decide +kernel
theorem dX10_countOf_0 : decode cX10_countOf 0 = .ok (.iload_n 1, 1) := by decide +kernel
theorem dX10_countOf_1 : decode cX10_countOf 1 = .ok (.iconst 5, 1) := by decide +kernel
theorem dX10_countOf_2 : decode cX10_countOf 2 = .ok (.if_icmp .ne 13, 3) := by decide +kernel
theorem dX10_countOf_5 : decode cX10_countOf 5 = .ok (.aload_n 0, 1) := by decide +kernel
theorem dX10_countOf_6 : decode cX10_countOf 6 = .ok (.getfield 36, 3) := by decide +kernel
theorem dX10_countOf_9 : decode cX10_countOf 9 = .ok (.getfield 123, 3) := by decide +kernel
theorem dX10_countOf_12 : decode cX10_countOf 12 = .ok (.goto 11, 3) := by decide +kernel
theorem dX10_countOf_15 : decode cX10_countOf 15 = .ok (.aload_n 0, 1) := by decide +kernel
theorem dX10_countOf_16 : decode cX10_countOf 16 = .ok (.getfield 18, 3) := by decide +kernel
theorem dX10_countOf_19 : decode cX10_countOf 19 = .ok (.iload_n 1, 1) := by decide +kernel
theorem dX10_countOf_20 : decode cX10_countOf 20 = .ok (.invokevirtual 267, 3) := by decide +kernel
theorem dX10_countOf_23 : decode cX10_countOf 23 = .ok (.ireturn, 1) := by decide +kernel
theorem dX10_isFact_0 : decode cX10_isFact 0 = .ok (.iload_n 0, 1) := by decide +kernel
theorem dX10_isFact_1 : decode cX10_isFact 1 = .ok (.ifCond .lt 13, 3) := by decide +kernel
theorem dX10_isFact_4 : decode cX10_isFact 4 = .ok (.iload_n 0, 1) := by decide +kernel
theorem dX10_isFact_5 : decode cX10_isFact 5 = .ok (.bipush 6, 2) := by decide +kernel
theorem dX10_isFact_7 : decode cX10_isFact 7 = .ok (.if_icmp .ge 7, 3) := by decide +kernel
theorem dX10_isFact_10 : decode cX10_isFact 10 = .ok (.iconst 1, 1) := by decide +kernel
theorem dX10_isFact_11 : decode cX10_isFact 11 = .ok (.goto 4, 3) := by decide +kernel
theorem dX10_isFact_14 : decode cX10_isFact 14 = .ok (.iconst 0, 1) := by decide +kernel
theorem dX10_isFact_15 : decode cX10_isFact 15 = .ok (.ireturn, 1) := by decide +kernel
theorem dX10_follow_0 : decode cX10_follow 0 = .ok (.aload_n 0, 1) := by decide +kernel
theorem dX10_follow_1 : decode cX10_follow 1 = .ok (.getfield 43, 3) := by decide +kernel
theorem dX10_follow_4 : decode cX10_follow 4 = .ok (.aload_n 0, 1) := by decide +kernel
theorem dX10_follow_5 : decode cX10_follow 5 = .ok (.getfield 18, 3) := by decide +kernel
theorem dX10_follow_8 : decode cX10_follow 8 = .ok (.aload_n 0, 1) := by decide +kernel
theorem dX10_follow_9 : decode cX10_follow 9 = .ok (.getfield 11, 3) := by decide +kernel
theorem dX10_follow_12 : decode cX10_follow 12 = .ok (.invokevirtual 270, 3) := by decide +kernel
theorem dX10_follow_15 : decode cX10_follow 15 = .ok (.aload_n 0, 1) := by decide +kernel
theorem dX10_follow_16 : decode cX10_follow 16 = .ok (.getfield 43, 3) := by decide +kernel
theorem dX10_follow_19 : decode cX10_follow 19 = .ok (.iload_n 1, 1) := by decide +kernel
theorem dX10_follow_20 : decode cX10_follow 20 = .ok (.invokevirtual 274, 3) := by decide +kernel
theorem dX10_follow_23 : decode cX10_follow 23 = .ok (.aload_n 0, 1) := by decide +kernel
theorem dX10_follow_24 : decode cX10_follow 24 = .ok (.getfield 43, 3) := by decide +kernel
theorem dX10_follow_27 : decode cX10_follow 27 = .ok (.invokevirtual 232, 3) := by decide +kernel
theorem dX10_follow_30 : decode cX10_follow 30 = .ok (.return_, 1) := by decide +kernel
theorem dX10_livesAsTold_0 : decode cX10_livesAsTold 0 = .ok (.aload_n 0, 1) := by decide +kernel
theorem dX10_livesAsTold_1 : decode cX10_livesAsTold 1 = .ok (.getfield 43, 3) := by decide +kernel
theorem dX10_livesAsTold_4 : decode cX10_livesAsTold 4 = .ok (.aload_n 0, 1) := by decide +kernel
theorem dX10_livesAsTold_5 : decode cX10_livesAsTold 5 = .ok (.getfield 18, 3) := by decide +kernel
theorem dX10_livesAsTold_8 : decode cX10_livesAsTold 8 = .ok (.invokevirtual 277, 3) := by decide +kernel
theorem dX10_livesAsTold_11 : decode cX10_livesAsTold 11 = .ok (.ifCond .ne 5, 3) := by decide +kernel
theorem dX10_livesAsTold_14 : decode cX10_livesAsTold 14 = .ok (.iconst 0, 1) := by decide +kernel
theorem dX10_livesAsTold_15 : decode cX10_livesAsTold 15 = .ok (.ireturn, 1) := by decide +kernel
theorem dX10_livesAsTold_16 : decode cX10_livesAsTold 16 = .ok (.aload_n 0, 1) := by decide +kernel
theorem dX10_livesAsTold_17 : decode cX10_livesAsTold 17 = .ok (.getfield 43, 3) := by decide +kernel
theorem dX10_livesAsTold_20 : decode cX10_livesAsTold 20 = .ok (.invokevirtual 232, 3) := by decide +kernel
theorem dX10_livesAsTold_23 : decode cX10_livesAsTold 23 = .ok (.iconst 1, 1) := by decide +kernel
theorem dX10_livesAsTold_24 : decode cX10_livesAsTold 24 = .ok (.ireturn, 1) := by decide +kernel
theorem dX10_hangsTogether_0 : decode cX10_hangsTogether 0 = .ok (.aload_n 0, 1) := by decide +kernel
theorem dX10_hangsTogether_1 : decode cX10_hangsTogether 1 = .ok (.invokevirtual 205, 3) := by decide +kernel
theorem dX10_hangsTogether_4 : decode cX10_hangsTogether 4 = .ok (.ifCond .eq 31, 3) := by decide +kernel
theorem dX10_hangsTogether_7 : decode cX10_hangsTogether 7 = .ok (.aload_n 0, 1) := by decide +kernel
theorem dX10_hangsTogether_8 : decode cX10_hangsTogether 8 = .ok (.getfield 43, 3) := by decide +kernel
theorem dX10_hangsTogether_11 : decode cX10_hangsTogether 11 = .ok (.aload_n 0, 1) := by decide +kernel
theorem dX10_hangsTogether_12 : decode cX10_hangsTogether 12 = .ok (.getfield 18, 3) := by decide +kernel
theorem dX10_hangsTogether_15 : decode cX10_hangsTogether 15 = .ok (.getfield 170, 3) := by decide +kernel
theorem dX10_hangsTogether_18 : decode cX10_hangsTogether 18 = .ok (.invokevirtual 173, 3) := by decide +kernel
theorem dX10_hangsTogether_21 : decode cX10_hangsTogether 21 = .ok (.aload_n 0, 1) := by decide +kernel
theorem dX10_hangsTogether_22 : decode cX10_hangsTogether 22 = .ok (.getfield 18, 3) := by decide +kernel
theorem dX10_hangsTogether_25 : decode cX10_hangsTogether 25 = .ok (.getfield 170, 3) := by decide +kernel
theorem dX10_hangsTogether_28 : decode cX10_hangsTogether 28 = .ok (.if_icmp .ne 7, 3) := by decide +kernel
theorem dX10_hangsTogether_31 : decode cX10_hangsTogether 31 = .ok (.iconst 1, 1) := by decide +kernel
theorem dX10_hangsTogether_32 : decode cX10_hangsTogether 32 = .ok (.goto 4, 3) := by decide +kernel
theorem dX10_hangsTogether_35 : decode cX10_hangsTogether 35 = .ok (.iconst 0, 1) := by decide +kernel
theorem dX10_hangsTogether_36 : decode cX10_hangsTogether 36 = .ok (.ireturn, 1) := by decide +kernel
theorem dX10_shareKnown_0 : decode cX10_shareKnown 0 = .ok (.aload_n 0, 1) := by decide +kernel
theorem dX10_shareKnown_1 : decode cX10_shareKnown 1 = .ok (.aload_n 0, 1) := by decide +kernel
theorem dX10_shareKnown_2 : decode cX10_shareKnown 2 = .ok (.getfield 18, 3) := by decide +kernel
theorem dX10_shareKnown_5 : decode cX10_shareKnown 5 = .ok (.getfield 148, 3) := by decide +kernel
theorem dX10_shareKnown_8 : decode cX10_shareKnown 8 = .ok (.invokevirtual 151, 3) := by decide +kernel
theorem dX10_shareKnown_11 : decode cX10_shareKnown 11 = .ok (.aload_n 0, 1) := by decide +kernel
theorem dX10_shareKnown_12 : decode cX10_shareKnown 12 = .ok (.getfield 43, 3) := by decide +kernel
theorem dX10_shareKnown_15 : decode cX10_shareKnown 15 = .ok (.getfield 158, 3) := by decide +kernel
theorem dX10_shareKnown_18 : decode cX10_shareKnown 18 = .ok (.iconst 0, 1) := by decide +kernel
theorem dX10_shareKnown_19 : decode cX10_shareKnown 19 = .ok (.aload_n 0, 1) := by decide +kernel
theorem dX10_shareKnown_20 : decode cX10_shareKnown 20 = .ok (.getfield 54, 3) := by decide +kernel
theorem dX10_shareKnown_23 : decode cX10_shareKnown 23 = .ok (.iconst 0, 1) := by decide +kernel
theorem dX10_shareKnown_24 : decode cX10_shareKnown 24 = .ok (.bipush 7, 2) := by decide +kernel
theorem dX10_shareKnown_26 : decode cX10_shareKnown 26 = .ok (.invokestatic 281, 3) := by decide +kernel
theorem dX10_shareKnown_29 : decode cX10_shareKnown 29 = .ok (.aload_n 0, 1) := by decide +kernel
theorem dX10_shareKnown_30 : decode cX10_shareKnown 30 = .ok (.aload_n 0, 1) := by decide +kernel
theorem dX10_shareKnown_31 : decode cX10_shareKnown 31 = .ok (.getfield 18, 3) := by decide +kernel
theorem dX10_shareKnown_34 : decode cX10_shareKnown 34 = .ok (.getfield 287, 3) := by decide +kernel
theorem dX10_shareKnown_37 : decode cX10_shareKnown 37 = .ok (.invokevirtual 151, 3) := by decide +kernel
theorem dX10_shareKnown_40 : decode cX10_shareKnown 40 = .ok (.iconst 0, 1) := by decide +kernel
theorem dX10_shareKnown_41 : decode cX10_shareKnown 41 = .ok (.istore_n 1, 1) := by decide +kernel
theorem dX10_shareKnown_42 : decode cX10_shareKnown 42 = .ok (.iload_n 1, 1) := by decide +kernel
theorem dX10_shareKnown_43 : decode cX10_shareKnown 43 = .ok (.aload_n 0, 1) := by decide +kernel
theorem dX10_shareKnown_44 : decode cX10_shareKnown 44 = .ok (.getfield 18, 3) := by decide +kernel
theorem dX10_shareKnown_47 : decode cX10_shareKnown 47 = .ok (.getfield 170, 3) := by decide +kernel
theorem dX10_shareKnown_50 : decode cX10_shareKnown 50 = .ok (.if_icmp .ge 27, 3) := by decide +kernel
theorem dX10_shareKnown_53 : decode cX10_shareKnown 53 = .ok (.aload_n 0, 1) := by decide +kernel
theorem dX10_shareKnown_54 : decode cX10_shareKnown 54 = .ok (.getfield 54, 3) := by decide +kernel
theorem dX10_shareKnown_57 : decode cX10_shareKnown 57 = .ok (.iload_n 1, 1) := by decide +kernel
theorem dX10_shareKnown_58 : decode cX10_shareKnown 58 = .ok (.dup2, 1) := by decide +kernel
theorem dX10_shareKnown_59 : decode cX10_shareKnown 59 = .ok (.iaload, 1) := by decide +kernel
theorem dX10_shareKnown_60 : decode cX10_shareKnown 60 = .ok (.aload_n 0, 1) := by decide +kernel
theorem dX10_shareKnown_61 : decode cX10_shareKnown 61 = .ok (.getfield 43, 3) := by decide +kernel
theorem dX10_shareKnown_64 : decode cX10_shareKnown 64 = .ok (.getfield 158, 3) := by decide +kernel
theorem dX10_shareKnown_67 : decode cX10_shareKnown 67 = .ok (.iload_n 1, 1) := by decide +kernel
theorem dX10_shareKnown_68 : decode cX10_shareKnown 68 = .ok (.iaload, 1) := by decide +kernel
theorem dX10_shareKnown_69 : decode cX10_shareKnown 69 = .ok (.iand, 1) := by decide +kernel
theorem dX10_shareKnown_70 : decode cX10_shareKnown 70 = .ok (.iastore, 1) := by decide +kernel
theorem dX10_shareKnown_71 : decode cX10_shareKnown 71 = .ok (.iinc 1 1, 3) := by decide +kernel
theorem dX10_shareKnown_74 : decode cX10_shareKnown 74 = .ok (.goto (-32), 3) := by decide +kernel
theorem dX10_shareKnown_77 : decode cX10_shareKnown 77 = .ok (.return_, 1) := by decide +kernel
theorem dX10_leadByNaming_0 : decode cX10_leadByNaming 0 = .ok (.aload_n 0, 1) := by decide +kernel
theorem dX10_leadByNaming_1 : decode cX10_leadByNaming 1 = .ok (.getfield 18, 3) := by decide +kernel
theorem dX10_leadByNaming_4 : decode cX10_leadByNaming 4 = .ok (.getfield 290, 3) := by decide +kernel
theorem dX10_leadByNaming_7 : decode cX10_leadByNaming 7 = .ok (.iload_n 2, 1) := by decide +kernel
theorem dX10_leadByNaming_8 : decode cX10_leadByNaming 8 = .ok (.iaload, 1) := by decide +kernel
theorem dX10_leadByNaming_9 : decode cX10_leadByNaming 9 = .ok (.aload_n 0, 1) := by decide +kernel
theorem dX10_leadByNaming_10 : decode cX10_leadByNaming 10 = .ok (.getfield 18, 3) := by decide +kernel
theorem dX10_leadByNaming_13 : decode cX10_leadByNaming 13 = .ok (.iload_n 1, 1) := by decide +kernel
theorem dX10_leadByNaming_14 : decode cX10_leadByNaming 14 = .ok (.invokevirtual 293, 3) := by decide +kernel
theorem dX10_leadByNaming_17 : decode cX10_leadByNaming 17 = .ok (.iconst (-1), 1) := by decide +kernel
theorem dX10_leadByNaming_18 : decode cX10_leadByNaming 18 = .ok (.ixor, 1) := by decide +kernel
theorem dX10_leadByNaming_19 : decode cX10_leadByNaming 19 = .ok (.iand, 1) := by decide +kernel
theorem dX10_leadByNaming_20 : decode cX10_leadByNaming 20 = .ok (.istore_n 3, 1) := by decide +kernel
theorem dX10_leadByNaming_21 : decode cX10_leadByNaming 21 = .ok (.iload_n 3, 1) := by decide +kernel
theorem dX10_leadByNaming_22 : decode cX10_leadByNaming 22 = .ok (.invokestatic 296, 3) := by decide +kernel
theorem dX10_leadByNaming_25 : decode cX10_leadByNaming 25 = .ok (.aload_n 0, 1) := by decide +kernel
theorem dX10_leadByNaming_26 : decode cX10_leadByNaming 26 = .ok (.getfield 58, 3) := by decide +kernel
theorem dX10_leadByNaming_29 : decode cX10_leadByNaming 29 = .ok (.iload_n 1, 1) := by decide +kernel
theorem dX10_leadByNaming_30 : decode cX10_leadByNaming 30 = .ok (.iconst 1, 1) := by decide +kernel
theorem dX10_leadByNaming_31 : decode cX10_leadByNaming 31 = .ok (.iload_n 2, 1) := by decide +kernel
theorem dX10_leadByNaming_32 : decode cX10_leadByNaming 32 = .ok (.ishl, 1) := by decide +kernel
theorem dX10_leadByNaming_33 : decode cX10_leadByNaming 33 = .ok (.ior, 1) := by decide +kernel
theorem dX10_leadByNaming_34 : decode cX10_leadByNaming 34 = .ok (.iaload, 1) := by decide +kernel
theorem dX10_leadByNaming_35 : decode cX10_leadByNaming 35 = .ok (.isub, 1) := by decide +kernel
theorem dX10_leadByNaming_36 : decode cX10_leadByNaming 36 = .ok (.ireturn, 1) := by decide +kernel
theorem dX10_bestNaming_0 : decode cX10_bestNaming 0 = .ok (.iconst 0, 1) := by decide +kernel
theorem dX10_bestNaming_1 : decode cX10_bestNaming 1 = .ok (.istore_n 2, 1) := by decide +kernel
theorem dX10_bestNaming_2 : decode cX10_bestNaming 2 = .ok (.bipush (-42), 2) := by decide +kernel
theorem dX10_bestNaming_4 : decode cX10_bestNaming 4 = .ok (.istore_n 3, 1) := by decide +kernel
theorem dX10_bestNaming_5 : decode cX10_bestNaming 5 = .ok (.iconst 0, 1) := by decide +kernel
theorem dX10_bestNaming_6 : decode cX10_bestNaming 6 = .ok (.istore 4, 2) := by decide +kernel
theorem dX10_bestNaming_8 : decode cX10_bestNaming 8 = .ok (.iload 4, 2) := by decide +kernel
theorem dX10_bestNaming_10 : decode cX10_bestNaming 10 = .ok (.aload_n 0, 1) := by decide +kernel
theorem dX10_bestNaming_11 : decode cX10_bestNaming 11 = .ok (.getfield 18, 3) := by decide +kernel
theorem dX10_bestNaming_14 : decode cX10_bestNaming 14 = .ok (.getfield 170, 3) := by decide +kernel
theorem dX10_bestNaming_17 : decode cX10_bestNaming 17 = .ok (.if_icmp .ge 39, 3) := by decide +kernel
theorem dX10_bestNaming_20 : decode cX10_bestNaming 20 = .ok (.iload_n 1, 1) := by decide +kernel
theorem dX10_bestNaming_21 : decode cX10_bestNaming 21 = .ok (.iload 4, 2) := by decide +kernel
theorem dX10_bestNaming_23 : decode cX10_bestNaming 23 = .ok (.ishr, 1) := by decide +kernel
theorem dX10_bestNaming_24 : decode cX10_bestNaming 24 = .ok (.iconst 1, 1) := by decide +kernel
theorem dX10_bestNaming_25 : decode cX10_bestNaming 25 = .ok (.iand, 1) := by decide +kernel
theorem dX10_bestNaming_26 : decode cX10_bestNaming 26 = .ok (.ifCond .ne 24, 3) := by decide +kernel
theorem dX10_bestNaming_29 : decode cX10_bestNaming 29 = .ok (.aload_n 0, 1) := by decide +kernel
theorem dX10_bestNaming_30 : decode cX10_bestNaming 30 = .ok (.iload_n 1, 1) := by decide +kernel
theorem dX10_bestNaming_31 : decode cX10_bestNaming 31 = .ok (.iload 4, 2) := by decide +kernel
theorem dX10_bestNaming_33 : decode cX10_bestNaming 33 = .ok (.invokevirtual 244, 3) := by decide +kernel
theorem dX10_bestNaming_36 : decode cX10_bestNaming 36 = .ok (.istore 5, 2) := by decide +kernel
theorem dX10_bestNaming_38 : decode cX10_bestNaming 38 = .ok (.iload 5, 2) := by decide +kernel
theorem dX10_bestNaming_40 : decode cX10_bestNaming 40 = .ok (.iload_n 3, 1) := by decide +kernel
theorem dX10_bestNaming_41 : decode cX10_bestNaming 41 = .ok (.if_icmp .le 9, 3) := by decide +kernel
theorem dX10_bestNaming_44 : decode cX10_bestNaming 44 = .ok (.iload 5, 2) := by decide +kernel
theorem dX10_bestNaming_46 : decode cX10_bestNaming 46 = .ok (.istore_n 3, 1) := by decide +kernel
theorem dX10_bestNaming_47 : decode cX10_bestNaming 47 = .ok (.iload 4, 2) := by decide +kernel
theorem dX10_bestNaming_49 : decode cX10_bestNaming 49 = .ok (.istore_n 2, 1) := by decide +kernel
theorem dX10_bestNaming_50 : decode cX10_bestNaming 50 = .ok (.iinc 4 1, 3) := by decide +kernel
theorem dX10_bestNaming_53 : decode cX10_bestNaming 53 = .ok (.goto (-45), 3) := by decide +kernel
theorem dX10_bestNaming_56 : decode cX10_bestNaming 56 = .ok (.iload_n 2, 1) := by decide +kernel
theorem dX10_bestNaming_57 : decode cX10_bestNaming 57 = .ok (.ireturn, 1) := by decide +kernel
theorem dX10_setFraction_0 : decode cX10_setFraction 0 = .ok (.lload_n 1, 1) := by decide +kernel
theorem dX10_setFraction_1 : decode cX10_setFraction 1 = .ok (.lload_n 3, 1) := by decide +kernel
theorem dX10_setFraction_2 : decode cX10_setFraction 2 = .ok (.invokestatic 301, 3) := by decide +kernel
theorem dX10_setFraction_5 : decode cX10_setFraction 5 = .ok (.lstore 5, 2) := by decide +kernel
theorem dX10_setFraction_7 : decode cX10_setFraction 7 = .ok (.lload 5, 2) := by decide +kernel
theorem dX10_setFraction_9 : decode cX10_setFraction 9 = .ok (.lconst 0, 1) := by decide +kernel
theorem dX10_setFraction_10 : decode cX10_setFraction 10 = .ok (.lcmp, 1) := by decide +kernel
theorem dX10_setFraction_11 : decode cX10_setFraction 11 = .ok (.ifCond .le 19, 3) := by decide +kernel
theorem dX10_setFraction_14 : decode cX10_setFraction 14 = .ok (.aload_n 0, 1) := by decide +kernel
theorem dX10_setFraction_15 : decode cX10_setFraction 15 = .ok (.lload_n 1, 1) := by decide +kernel
theorem dX10_setFraction_16 : decode cX10_setFraction 16 = .ok (.lload 5, 2) := by decide +kernel
theorem dX10_setFraction_18 : decode cX10_setFraction 18 = .ok (.ldiv, 1) := by decide +kernel
theorem dX10_setFraction_19 : decode cX10_setFraction 19 = .ok (.putfield 64, 3) := by decide +kernel
theorem dX10_setFraction_22 : decode cX10_setFraction 22 = .ok (.aload_n 0, 1) := by decide +kernel
theorem dX10_setFraction_23 : decode cX10_setFraction 23 = .ok (.lload_n 3, 1) := by decide +kernel
theorem dX10_setFraction_24 : decode cX10_setFraction 24 = .ok (.lload 5, 2) := by decide +kernel
theorem dX10_setFraction_26 : decode cX10_setFraction 26 = .ok (.ldiv, 1) := by decide +kernel
theorem dX10_setFraction_27 : decode cX10_setFraction 27 = .ok (.putfield 68, 3) := by decide +kernel
theorem dX10_setFraction_30 : decode cX10_setFraction 30 = .ok (.return_, 1) := by decide +kernel
theorem dX10_commonDivisor_0 : decode cX10_commonDivisor 0 = .ok (.lload_n 0, 1) := by decide +kernel
theorem dX10_commonDivisor_1 : decode cX10_commonDivisor 1 = .ok (.lstore 4, 2) := by decide +kernel
theorem dX10_commonDivisor_3 : decode cX10_commonDivisor 3 = .ok (.lload_n 2, 1) := by decide +kernel
theorem dX10_commonDivisor_4 : decode cX10_commonDivisor 4 = .ok (.lstore 6, 2) := by decide +kernel
theorem dX10_commonDivisor_6 : decode cX10_commonDivisor 6 = .ok (.iconst 0, 1) := by decide +kernel
theorem dX10_commonDivisor_7 : decode cX10_commonDivisor 7 = .ok (.istore 8, 2) := by decide +kernel
theorem dX10_commonDivisor_9 : decode cX10_commonDivisor 9 = .ok (.iload 8, 2) := by decide +kernel
theorem dX10_commonDivisor_11 : decode cX10_commonDivisor 11 = .ok (.bipush 100, 2) := by decide +kernel
theorem dX10_commonDivisor_13 : decode cX10_commonDivisor 13 = .ok (.if_icmp .ge 31, 3) := by decide +kernel
theorem dX10_commonDivisor_16 : decode cX10_commonDivisor 16 = .ok (.lload 6, 2) := by decide +kernel
theorem dX10_commonDivisor_18 : decode cX10_commonDivisor 18 = .ok (.lconst 0, 1) := by decide +kernel
theorem dX10_commonDivisor_19 : decode cX10_commonDivisor 19 = .ok (.lcmp, 1) := by decide +kernel
theorem dX10_commonDivisor_20 : decode cX10_commonDivisor 20 = .ok (.ifCond .eq 24, 3) := by decide +kernel
theorem dX10_commonDivisor_23 : decode cX10_commonDivisor 23 = .ok (.lload 4, 2) := by decide +kernel
theorem dX10_commonDivisor_25 : decode cX10_commonDivisor 25 = .ok (.lload 6, 2) := by decide +kernel
theorem dX10_commonDivisor_27 : decode cX10_commonDivisor 27 = .ok (.lrem, 1) := by decide +kernel
theorem dX10_commonDivisor_28 : decode cX10_commonDivisor 28 = .ok (.lstore 9, 2) := by decide +kernel
theorem dX10_commonDivisor_30 : decode cX10_commonDivisor 30 = .ok (.lload 6, 2) := by decide +kernel
theorem dX10_commonDivisor_32 : decode cX10_commonDivisor 32 = .ok (.lstore 4, 2) := by decide +kernel
theorem dX10_commonDivisor_34 : decode cX10_commonDivisor 34 = .ok (.lload 9, 2) := by decide +kernel
theorem dX10_commonDivisor_36 : decode cX10_commonDivisor 36 = .ok (.lstore 6, 2) := by decide +kernel
theorem dX10_commonDivisor_38 : decode cX10_commonDivisor 38 = .ok (.iinc 8 1, 3) := by decide +kernel
theorem dX10_commonDivisor_41 : decode cX10_commonDivisor 41 = .ok (.goto (-32), 3) := by decide +kernel
theorem dX10_commonDivisor_44 : decode cX10_commonDivisor 44 = .ok (.lload 4, 2) := by decide +kernel
theorem dX10_commonDivisor_46 : decode cX10_commonDivisor 46 = .ok (.lreturn, 1) := by decide +kernel
theorem dJ6_bitCount_0f7a4_0 : decode cJ6_bitCount_0f7a4 0 = .ok (.iload_n 0, 1) := by decide +kernel
theorem dJ6_bitCount_0f7a4_1 : decode cJ6_bitCount_0f7a4 1 = .ok (.iload_n 0, 1) := by decide +kernel
theorem dJ6_bitCount_0f7a4_2 : decode cJ6_bitCount_0f7a4 2 = .ok (.iconst 1, 1) := by decide +kernel
theorem dJ6_bitCount_0f7a4_3 : decode cJ6_bitCount_0f7a4 3 = .ok (.iushr, 1) := by decide +kernel
theorem dJ6_bitCount_0f7a4_4 : decode cJ6_bitCount_0f7a4 4 = .ok (.ldc_w 265, 3) := by decide +kernel
theorem dJ6_bitCount_0f7a4_7 : decode cJ6_bitCount_0f7a4 7 = .ok (.iand, 1) := by decide +kernel
theorem dJ6_bitCount_0f7a4_8 : decode cJ6_bitCount_0f7a4 8 = .ok (.isub, 1) := by decide +kernel
theorem dJ6_bitCount_0f7a4_9 : decode cJ6_bitCount_0f7a4 9 = .ok (.istore_n 0, 1) := by decide +kernel
theorem dJ6_bitCount_0f7a4_10 : decode cJ6_bitCount_0f7a4 10 = .ok (.iload_n 0, 1) := by decide +kernel
theorem dJ6_bitCount_0f7a4_11 : decode cJ6_bitCount_0f7a4 11 = .ok (.ldc_w 266, 3) := by decide +kernel
theorem dJ6_bitCount_0f7a4_14 : decode cJ6_bitCount_0f7a4 14 = .ok (.iand, 1) := by decide +kernel
theorem dJ6_bitCount_0f7a4_15 : decode cJ6_bitCount_0f7a4 15 = .ok (.iload_n 0, 1) := by decide +kernel
theorem dJ6_bitCount_0f7a4_16 : decode cJ6_bitCount_0f7a4 16 = .ok (.iconst 2, 1) := by decide +kernel
theorem dJ6_bitCount_0f7a4_17 : decode cJ6_bitCount_0f7a4 17 = .ok (.iushr, 1) := by decide +kernel
theorem dJ6_bitCount_0f7a4_18 : decode cJ6_bitCount_0f7a4 18 = .ok (.ldc_w 266, 3) := by decide +kernel
theorem dJ6_bitCount_0f7a4_21 : decode cJ6_bitCount_0f7a4 21 = .ok (.iand, 1) := by decide +kernel
theorem dJ6_bitCount_0f7a4_22 : decode cJ6_bitCount_0f7a4 22 = .ok (.iadd, 1) := by decide +kernel
theorem dJ6_bitCount_0f7a4_23 : decode cJ6_bitCount_0f7a4 23 = .ok (.istore_n 0, 1) := by decide +kernel
theorem dJ6_bitCount_0f7a4_24 : decode cJ6_bitCount_0f7a4 24 = .ok (.iload_n 0, 1) := by decide +kernel
theorem dJ6_bitCount_0f7a4_25 : decode cJ6_bitCount_0f7a4 25 = .ok (.iload_n 0, 1) := by decide +kernel
theorem dJ6_bitCount_0f7a4_26 : decode cJ6_bitCount_0f7a4 26 = .ok (.iconst 4, 1) := by decide +kernel
theorem dJ6_bitCount_0f7a4_27 : decode cJ6_bitCount_0f7a4 27 = .ok (.iushr, 1) := by decide +kernel
theorem dJ6_bitCount_0f7a4_28 : decode cJ6_bitCount_0f7a4 28 = .ok (.iadd, 1) := by decide +kernel
theorem dJ6_bitCount_0f7a4_29 : decode cJ6_bitCount_0f7a4 29 = .ok (.ldc_w 267, 3) := by decide +kernel
theorem dJ6_bitCount_0f7a4_32 : decode cJ6_bitCount_0f7a4 32 = .ok (.iand, 1) := by decide +kernel
theorem dJ6_bitCount_0f7a4_33 : decode cJ6_bitCount_0f7a4 33 = .ok (.istore_n 0, 1) := by decide +kernel
theorem dJ6_bitCount_0f7a4_34 : decode cJ6_bitCount_0f7a4 34 = .ok (.iload_n 0, 1) := by decide +kernel
theorem dJ6_bitCount_0f7a4_35 : decode cJ6_bitCount_0f7a4 35 = .ok (.iload_n 0, 1) := by decide +kernel
theorem dJ6_bitCount_0f7a4_36 : decode cJ6_bitCount_0f7a4 36 = .ok (.bipush 8, 2) := by decide +kernel
theorem dJ6_bitCount_0f7a4_38 : decode cJ6_bitCount_0f7a4 38 = .ok (.iushr, 1) := by decide +kernel
theorem dJ6_bitCount_0f7a4_39 : decode cJ6_bitCount_0f7a4 39 = .ok (.iadd, 1) := by decide +kernel
theorem dJ6_bitCount_0f7a4_40 : decode cJ6_bitCount_0f7a4 40 = .ok (.istore_n 0, 1) := by decide +kernel
theorem dJ6_bitCount_0f7a4_41 : decode cJ6_bitCount_0f7a4 41 = .ok (.iload_n 0, 1) := by decide +kernel
theorem dJ6_bitCount_0f7a4_42 : decode cJ6_bitCount_0f7a4 42 = .ok (.iload_n 0, 1) := by decide +kernel
theorem dJ6_bitCount_0f7a4_43 : decode cJ6_bitCount_0f7a4 43 = .ok (.bipush 16, 2) := by decide +kernel
theorem dJ6_bitCount_0f7a4_45 : decode cJ6_bitCount_0f7a4 45 = .ok (.iushr, 1) := by decide +kernel
theorem dJ6_bitCount_0f7a4_46 : decode cJ6_bitCount_0f7a4 46 = .ok (.iadd, 1) := by decide +kernel
theorem dJ6_bitCount_0f7a4_47 : decode cJ6_bitCount_0f7a4 47 = .ok (.istore_n 0, 1) := by decide +kernel
theorem dJ6_bitCount_0f7a4_48 : decode cJ6_bitCount_0f7a4 48 = .ok (.iload_n 0, 1) := by decide +kernel
theorem dJ6_bitCount_0f7a4_49 : decode cJ6_bitCount_0f7a4 49 = .ok (.bipush 63, 2) := by decide +kernel
theorem dJ6_bitCount_0f7a4_51 : decode cJ6_bitCount_0f7a4 51 = .ok (.iand, 1) := by decide +kernel
theorem dJ6_bitCount_0f7a4_52 : decode cJ6_bitCount_0f7a4 52 = .ok (.ireturn, 1) := by decide +kernel
theorem dJ0_length_8abf5_0 : decode cJ0_length_8abf5 0 = .ok (.aload_n 0, 1) := by decide +kernel
theorem dJ0_length_8abf5_1 : decode cJ0_length_8abf5 1 = .ok (.getfield 9, 3) := by decide +kernel
theorem dJ0_length_8abf5_4 : decode cJ0_length_8abf5 4 = .ok (.arraylength, 1) := by decide +kernel
theorem dJ0_length_8abf5_5 : decode cJ0_length_8abf5 5 = .ok (.aload_n 0, 1) := by decide +kernel
theorem dJ0_length_8abf5_6 : decode cJ0_length_8abf5 6 = .ok (.invokevirtual 335, 3) := by decide +kernel
theorem dJ0_length_8abf5_9 : decode cJ0_length_8abf5 9 = .ok (.ishr, 1) := by decide +kernel
theorem dJ0_length_8abf5_10 : decode cJ0_length_8abf5 10 = .ok (.ireturn, 1) := by decide +kernel
theorem dJ0_charAt_5068e_0 : decode cJ0_charAt_5068e 0 = .ok (.aload_n 0, 1) := by decide +kernel
theorem dJ0_charAt_5068e_1 : decode cJ0_charAt_5068e 1 = .ok (.invokevirtual 492, 3) := by decide +kernel
theorem dJ0_charAt_5068e_4 : decode cJ0_charAt_5068e 4 = .ok (.ifCond .eq 12, 3) := by decide +kernel
theorem dJ0_charAt_5068e_7 : decode cJ0_charAt_5068e 7 = .ok (.aload_n 0, 1) := by decide +kernel
theorem dJ0_charAt_5068e_8 : decode cJ0_charAt_5068e 8 = .ok (.getfield 9, 3) := by decide +kernel
theorem dJ0_charAt_5068e_11 : decode cJ0_charAt_5068e 11 = .ok (.iload_n 1, 1) := by decide +kernel
theorem dJ0_charAt_5068e_12 : decode cJ0_charAt_5068e 12 = .ok (.invokestatic 495, 3) := by decide +kernel
theorem dJ0_charAt_5068e_15 : decode cJ0_charAt_5068e 15 = .ok (.ireturn, 1) := by decide +kernel
theorem dJ0_charAt_5068e_16 : decode cJ0_charAt_5068e 16 = .ok (.aload_n 0, 1) := by decide +kernel
theorem dJ0_charAt_5068e_17 : decode cJ0_charAt_5068e 17 = .ok (.getfield 9, 3) := by decide +kernel
theorem dJ0_charAt_5068e_20 : decode cJ0_charAt_5068e 20 = .ok (.iload_n 1, 1) := by decide +kernel
theorem dJ0_charAt_5068e_21 : decode cJ0_charAt_5068e 21 = .ok (.invokestatic 498, 3) := by decide +kernel
theorem dJ0_charAt_5068e_24 : decode cJ0_charAt_5068e 24 = .ok (.ireturn, 1) := by decide +kernel
theorem dJ0_coder_7d493_0 : decode cJ0_coder_7d493 0 = .ok (.getstatic 38, 3) := by decide +kernel
theorem dJ0_coder_7d493_3 : decode cJ0_coder_7d493 3 = .ok (.ifCond .eq 10, 3) := by decide +kernel
theorem dJ0_coder_7d493_6 : decode cJ0_coder_7d493 6 = .ok (.aload_n 0, 1) := by decide +kernel
theorem dJ0_coder_7d493_7 : decode cJ0_coder_7d493 7 = .ok (.getfield 15, 3) := by decide +kernel
theorem dJ0_coder_7d493_10 : decode cJ0_coder_7d493 10 = .ok (.goto 4, 3) := by decide +kernel
theorem dJ0_coder_7d493_13 : decode cJ0_coder_7d493 13 = .ok (.iconst 1, 1) := by decide +kernel
theorem dJ0_coder_7d493_14 : decode cJ0_coder_7d493 14 = .ok (.ireturn, 1) := by decide +kernel
theorem dJ0_isLatin1_aae02_0 : decode cJ0_isLatin1_aae02 0 = .ok (.getstatic 38, 3) := by decide +kernel
theorem dJ0_isLatin1_aae02_3 : decode cJ0_isLatin1_aae02 3 = .ok (.ifCond .eq 14, 3) := by decide +kernel
theorem dJ0_isLatin1_aae02_6 : decode cJ0_isLatin1_aae02 6 = .ok (.aload_n 0, 1) := by decide +kernel
theorem dJ0_isLatin1_aae02_7 : decode cJ0_isLatin1_aae02 7 = .ok (.getfield 15, 3) := by decide +kernel
theorem dJ0_isLatin1_aae02_10 : decode cJ0_isLatin1_aae02 10 = .ok (.ifCond .ne 7, 3) := by decide +kernel
theorem dJ0_isLatin1_aae02_13 : decode cJ0_isLatin1_aae02 13 = .ok (.iconst 1, 1) := by decide +kernel
theorem dJ0_isLatin1_aae02_14 : decode cJ0_isLatin1_aae02 14 = .ok (.goto 4, 3) := by decide +kernel
theorem dJ0_isLatin1_aae02_17 : decode cJ0_isLatin1_aae02 17 = .ok (.iconst 0, 1) := by decide +kernel
theorem dJ0_isLatin1_aae02_18 : decode cJ0_isLatin1_aae02 18 = .ok (.ireturn, 1) := by decide +kernel
theorem dJ0_checkIndex_df160_0 : decode cJ0_checkIndex_df160 0 = .ok (.iload_n 0, 1) := by decide +kernel
theorem dJ0_checkIndex_df160_1 : decode cJ0_checkIndex_df160 1 = .ok (.iload_n 1, 1) := by decide +kernel
theorem dJ0_checkIndex_df160_2 : decode cJ0_checkIndex_df160 2 = .ok (.getstatic 1053, 3) := by decide +kernel
theorem dJ0_checkIndex_df160_5 : decode cJ0_checkIndex_df160 5 = .ok (.invokestatic 1059, 3) := by decide +kernel
theorem dJ0_checkIndex_df160_8 : decode cJ0_checkIndex_df160 8 = .ok (.pop, 1) := by decide +kernel
theorem dJ0_checkIndex_df160_9 : decode cJ0_checkIndex_df160 9 = .ok (.return_, 1) := by decide +kernel
theorem dJ1_charAt_3b067_0 : decode cJ1_charAt_3b067 0 = .ok (.iload_n 1, 1) := by decide +kernel
theorem dJ1_charAt_3b067_1 : decode cJ1_charAt_3b067 1 = .ok (.aload_n 0, 1) := by decide +kernel
theorem dJ1_charAt_3b067_2 : decode cJ1_charAt_3b067 2 = .ok (.arraylength, 1) := by decide +kernel
theorem dJ1_charAt_3b067_3 : decode cJ1_charAt_3b067 3 = .ok (.invokestatic 9, 3) := by decide +kernel
theorem dJ1_charAt_3b067_6 : decode cJ1_charAt_3b067 6 = .ok (.aload_n 0, 1) := by decide +kernel
theorem dJ1_charAt_3b067_7 : decode cJ1_charAt_3b067 7 = .ok (.iload_n 1, 1) := by decide +kernel
theorem dJ1_charAt_3b067_8 : decode cJ1_charAt_3b067 8 = .ok (.baload, 1) := by decide +kernel
theorem dJ1_charAt_3b067_9 : decode cJ1_charAt_3b067 9 = .ok (.sipush 255, 3) := by decide +kernel
theorem dJ1_charAt_3b067_12 : decode cJ1_charAt_3b067 12 = .ok (.iand, 1) := by decide +kernel
theorem dJ1_charAt_3b067_13 : decode cJ1_charAt_3b067 13 = .ok (.i2c, 1) := by decide +kernel
theorem dJ1_charAt_3b067_14 : decode cJ1_charAt_3b067 14 = .ok (.ireturn, 1) := by decide +kernel
theorem dJ2_getChar_3b067_0 : decode cJ2_getChar_3b067 0 = .ok (.getstatic 44, 3) := by decide +kernel
theorem dJ2_getChar_3b067_3 : decode cJ2_getChar_3b067 3 = .ok (.ifCond .ne 25, 3) := by decide +kernel
theorem dJ2_getChar_3b067_6 : decode cJ2_getChar_3b067 6 = .ok (.iload_n 1, 1) := by decide +kernel
theorem dJ2_getChar_3b067_7 : decode cJ2_getChar_3b067 7 = .ok (.ifCond .lt 11, 3) := by decide +kernel
theorem dJ2_getChar_3b067_10 : decode cJ2_getChar_3b067 10 = .ok (.iload_n 1, 1) := by decide +kernel
theorem dJ2_getChar_3b067_11 : decode cJ2_getChar_3b067 11 = .ok (.aload_n 0, 1) := by decide +kernel
theorem dJ2_getChar_3b067_12 : decode cJ2_getChar_3b067 12 = .ok (.invokestatic 48, 3) := by decide +kernel
theorem dJ2_getChar_3b067_15 : decode cJ2_getChar_3b067 15 = .ok (.if_icmp .lt 13, 3) := by decide +kernel
theorem dJ2_getChar_3b067_18 : decode cJ2_getChar_3b067 18 = .ok (.new 52, 3) := by decide +kernel
theorem dJ2_getChar_3b067_21 : decode cJ2_getChar_3b067 21 = .ok (.dup, 1) := by decide +kernel
theorem dJ2_getChar_3b067_22 : decode cJ2_getChar_3b067 22 = .ok (.ldc 54, 2) := by decide +kernel
theorem dJ2_getChar_3b067_24 : decode cJ2_getChar_3b067 24 = .ok (.invokespecial 56, 3) := by decide +kernel
theorem dJ2_getChar_3b067_27 : decode cJ2_getChar_3b067 27 = .ok (.athrow, 1) := by decide +kernel
theorem dJ2_getChar_3b067_28 : decode cJ2_getChar_3b067 28 = .ok (.iload_n 1, 1) := by decide +kernel
theorem dJ2_getChar_3b067_29 : decode cJ2_getChar_3b067 29 = .ok (.iconst 1, 1) := by decide +kernel
theorem dJ2_getChar_3b067_30 : decode cJ2_getChar_3b067 30 = .ok (.ishl, 1) := by decide +kernel
theorem dJ2_getChar_3b067_31 : decode cJ2_getChar_3b067 31 = .ok (.istore_n 1, 1) := by decide +kernel
theorem dJ2_getChar_3b067_32 : decode cJ2_getChar_3b067 32 = .ok (.aload_n 0, 1) := by decide +kernel
theorem dJ2_getChar_3b067_33 : decode cJ2_getChar_3b067 33 = .ok (.iload_n 1, 1) := by decide +kernel
theorem dJ2_getChar_3b067_34 : decode cJ2_getChar_3b067 34 = .ok (.iinc 1 1, 3) := by decide +kernel
theorem dJ2_getChar_3b067_37 : decode cJ2_getChar_3b067 37 = .ok (.baload, 1) := by decide +kernel
theorem dJ2_getChar_3b067_38 : decode cJ2_getChar_3b067 38 = .ok (.sipush 255, 3) := by decide +kernel
theorem dJ2_getChar_3b067_41 : decode cJ2_getChar_3b067 41 = .ok (.iand, 1) := by decide +kernel
theorem dJ2_getChar_3b067_42 : decode cJ2_getChar_3b067 42 = .ok (.getstatic 59, 3) := by decide +kernel
theorem dJ2_getChar_3b067_45 : decode cJ2_getChar_3b067 45 = .ok (.ishl, 1) := by decide +kernel
theorem dJ2_getChar_3b067_46 : decode cJ2_getChar_3b067 46 = .ok (.aload_n 0, 1) := by decide +kernel
theorem dJ2_getChar_3b067_47 : decode cJ2_getChar_3b067 47 = .ok (.iload_n 1, 1) := by decide +kernel
theorem dJ2_getChar_3b067_48 : decode cJ2_getChar_3b067 48 = .ok (.baload, 1) := by decide +kernel
theorem dJ2_getChar_3b067_49 : decode cJ2_getChar_3b067 49 = .ok (.sipush 255, 3) := by decide +kernel
theorem dJ2_getChar_3b067_52 : decode cJ2_getChar_3b067 52 = .ok (.iand, 1) := by decide +kernel
theorem dJ2_getChar_3b067_53 : decode cJ2_getChar_3b067 53 = .ok (.getstatic 63, 3) := by decide +kernel
theorem dJ2_getChar_3b067_56 : decode cJ2_getChar_3b067 56 = .ok (.ishl, 1) := by decide +kernel
theorem dJ2_getChar_3b067_57 : decode cJ2_getChar_3b067 57 = .ok (.ior, 1) := by decide +kernel
theorem dJ2_getChar_3b067_58 : decode cJ2_getChar_3b067 58 = .ok (.i2c, 1) := by decide +kernel
theorem dJ2_getChar_3b067_59 : decode cJ2_getChar_3b067 59 = .ok (.ireturn, 1) := by decide +kernel
theorem dJ2_length_9d52b_0 : decode cJ2_length_9d52b 0 = .ok (.aload_n 0, 1) := by decide +kernel
theorem dJ2_length_9d52b_1 : decode cJ2_length_9d52b 1 = .ok (.arraylength, 1) := by decide +kernel
theorem dJ2_length_9d52b_2 : decode cJ2_length_9d52b 2 = .ok (.iconst 1, 1) := by decide +kernel
theorem dJ2_length_9d52b_3 : decode cJ2_length_9d52b 3 = .ok (.ishr, 1) := by decide +kernel
theorem dJ2_length_9d52b_4 : decode cJ2_length_9d52b 4 = .ok (.ireturn, 1) := by decide +kernel
theorem dJ2_charAt_3b067_0 : decode cJ2_charAt_3b067 0 = .ok (.iload_n 1, 1) := by decide +kernel
theorem dJ2_charAt_3b067_1 : decode cJ2_charAt_3b067 1 = .ok (.aload_n 0, 1) := by decide +kernel
theorem dJ2_charAt_3b067_2 : decode cJ2_charAt_3b067 2 = .ok (.invokestatic 67, 3) := by decide +kernel
theorem dJ2_charAt_3b067_5 : decode cJ2_charAt_3b067 5 = .ok (.aload_n 0, 1) := by decide +kernel
theorem dJ2_charAt_3b067_6 : decode cJ2_charAt_3b067 6 = .ok (.iload_n 1, 1) := by decide +kernel
theorem dJ2_charAt_3b067_7 : decode cJ2_charAt_3b067 7 = .ok (.invokestatic 71, 3) := by decide +kernel
theorem dJ2_charAt_3b067_10 : decode cJ2_charAt_3b067 10 = .ok (.ireturn, 1) := by decide +kernel
theorem dJ2_checkIndex_2214a_0 : decode cJ2_checkIndex_2214a 0 = .ok (.iload_n 0, 1) := by decide +kernel
theorem dJ2_checkIndex_2214a_1 : decode cJ2_checkIndex_2214a 1 = .ok (.aload_n 1, 1) := by decide +kernel
theorem dJ2_checkIndex_2214a_2 : decode cJ2_checkIndex_2214a 2 = .ok (.invokestatic 48, 3) := by decide +kernel
theorem dJ2_checkIndex_2214a_5 : decode cJ2_checkIndex_2214a 5 = .ok (.invokestatic 414, 3) := by decide +kernel
theorem dJ2_checkIndex_2214a_8 : decode cJ2_checkIndex_2214a 8 = .ok (.return_, 1) := by decide +kernel
theorem dJ3_checkIndex_8e157_0 : decode cJ3_checkIndex_8e157 0 = .ok (.iload_n 0, 1) := by decide +kernel
theorem dJ3_checkIndex_8e157_1 : decode cJ3_checkIndex_8e157 1 = .ok (.ifCond .lt 8, 3) := by decide +kernel
theorem dJ3_checkIndex_8e157_4 : decode cJ3_checkIndex_8e157 4 = .ok (.iload_n 0, 1) := by decide +kernel
theorem dJ3_checkIndex_8e157_5 : decode cJ3_checkIndex_8e157 5 = .ok (.iload_n 1, 1) := by decide +kernel
theorem dJ3_checkIndex_8e157_6 : decode cJ3_checkIndex_8e157 6 = .ok (.if_icmp .lt 10, 3) := by decide +kernel
theorem dJ3_checkIndex_8e157_9 : decode cJ3_checkIndex_8e157 9 = .ok (.aload_n 2, 1) := by decide +kernel
theorem dJ3_checkIndex_8e157_10 : decode cJ3_checkIndex_8e157 10 = .ok (.iload_n 0, 1) := by decide +kernel
theorem dJ3_checkIndex_8e157_11 : decode cJ3_checkIndex_8e157 11 = .ok (.iload_n 1, 1) := by decide +kernel
theorem dJ3_checkIndex_8e157_12 : decode cJ3_checkIndex_8e157 12 = .ok (.invokestatic 95, 3) := by decide +kernel
theorem dJ3_checkIndex_8e157_15 : decode cJ3_checkIndex_8e157 15 = .ok (.athrow, 1) := by decide +kernel
theorem dJ3_checkIndex_8e157_16 : decode cJ3_checkIndex_8e157 16 = .ok (.iload_n 0, 1) := by decide +kernel
theorem dJ3_checkIndex_8e157_17 : decode cJ3_checkIndex_8e157 17 = .ok (.ireturn, 1) := by decide +kernel
