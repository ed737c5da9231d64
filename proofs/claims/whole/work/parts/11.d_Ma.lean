theorem d_Ma_addRule_0 : decode b_Ma_addRule 0 = .ok (.iconst 0, 1) := by decide +kernel
theorem d_Ma_addRule_1 : decode b_Ma_addRule 1 = .ok (.istore 5, 2) := by decide +kernel
theorem d_Ma_addRule_3 : decode b_Ma_addRule 3 = .ok (.iload 5, 2) := by decide +kernel
theorem d_Ma_addRule_5 : decode b_Ma_addRule 5 = .ok (.aload_n 0, 1) := by decide +kernel
theorem d_Ma_addRule_6 : decode b_Ma_addRule 6 = .ok (.getfield 29, 3) := by decide +kernel
theorem d_Ma_addRule_9 : decode b_Ma_addRule 9 = .ok (.if_icmp .ge 48, 3) := by decide +kernel
theorem d_Ma_addRule_12 : decode b_Ma_addRule 12 = .ok (.iload 5, 2) := by decide +kernel
theorem d_Ma_addRule_14 : decode b_Ma_addRule 14 = .ok (.iload_n 1, 1) := by decide +kernel
theorem d_Ma_addRule_15 : decode b_Ma_addRule 15 = .ok (.iand, 1) := by decide +kernel
theorem d_Ma_addRule_16 : decode b_Ma_addRule 16 = .ok (.iload_n 2, 1) := by decide +kernel
theorem d_Ma_addRule_17 : decode b_Ma_addRule 17 = .ok (.if_icmp .ne 34, 3) := by decide +kernel
theorem d_Ma_addRule_20 : decode b_Ma_addRule 20 = .ok (.iload 5, 2) := by decide +kernel
theorem d_Ma_addRule_22 : decode b_Ma_addRule 22 = .ok (.iload_n 3, 1) := by decide +kernel
theorem d_Ma_addRule_23 : decode b_Ma_addRule 23 = .ok (.iand, 1) := by decide +kernel
theorem d_Ma_addRule_24 : decode b_Ma_addRule 24 = .ok (.iload 4, 2) := by decide +kernel
theorem d_Ma_addRule_26 : decode b_Ma_addRule 26 = .ok (.ixor, 1) := by decide +kernel
theorem d_Ma_addRule_27 : decode b_Ma_addRule 27 = .ok (.istore 6, 2) := by decide +kernel
theorem d_Ma_addRule_29 : decode b_Ma_addRule 29 = .ok (.aload_n 0, 1) := by decide +kernel
theorem d_Ma_addRule_30 : decode b_Ma_addRule 30 = .ok (.getfield 20, 3) := by decide +kernel
theorem d_Ma_addRule_33 : decode b_Ma_addRule 33 = .ok (.iload 5, 2) := by decide +kernel
theorem d_Ma_addRule_35 : decode b_Ma_addRule 35 = .ok (.iload 6, 2) := by decide +kernel
theorem d_Ma_addRule_37 : decode b_Ma_addRule 37 = .ok (.invokevirtual 39, 3) := by decide +kernel
theorem d_Ma_addRule_40 : decode b_Ma_addRule 40 = .ok (.aload_n 0, 1) := by decide +kernel
theorem d_Ma_addRule_41 : decode b_Ma_addRule 41 = .ok (.getfield 23, 3) := by decide +kernel
theorem d_Ma_addRule_44 : decode b_Ma_addRule 44 = .ok (.iload 6, 2) := by decide +kernel
theorem d_Ma_addRule_46 : decode b_Ma_addRule 46 = .ok (.iload 5, 2) := by decide +kernel
theorem d_Ma_addRule_48 : decode b_Ma_addRule 48 = .ok (.invokevirtual 39, 3) := by decide +kernel
theorem d_Ma_addRule_51 : decode b_Ma_addRule 51 = .ok (.iinc 5 1, 3) := by decide +kernel
theorem d_Ma_addRule_54 : decode b_Ma_addRule 54 = .ok (.goto (-51), 3) := by decide +kernel
theorem d_Ma_addRule_57 : decode b_Ma_addRule 57 = .ok (.aload_n 0, 1) := by decide +kernel
theorem d_Ma_addRule_58 : decode b_Ma_addRule 58 = .ok (.dup, 1) := by decide +kernel
theorem d_Ma_addRule_59 : decode b_Ma_addRule 59 = .ok (.getfield 33, 3) := by decide +kernel
theorem d_Ma_addRule_62 : decode b_Ma_addRule 62 = .ok (.iconst 1, 1) := by decide +kernel
theorem d_Ma_addRule_63 : decode b_Ma_addRule 63 = .ok (.iadd, 1) := by decide +kernel
theorem d_Ma_addRule_64 : decode b_Ma_addRule 64 = .ok (.putfield 33, 3) := by decide +kernel
theorem d_Ma_addRule_67 : decode b_Ma_addRule 67 = .ok (.aload_n 0, 1) := by decide +kernel
theorem d_Ma_addRule_68 : decode b_Ma_addRule 68 = .ok (.getfield 33, 3) := by decide +kernel
theorem d_Ma_addRule_71 : decode b_Ma_addRule 71 = .ok (.iconst 1, 1) := by decide +kernel
theorem d_Ma_addRule_72 : decode b_Ma_addRule 72 = .ok (.isub, 1) := by decide +kernel
theorem d_Ma_addRule_73 : decode b_Ma_addRule 73 = .ok (.ireturn, 1) := by decide +kernel
theorem d_Ma_init_0 : decode b_Ma_init 0 = .ok (.aload_n 0, 1) := by decide +kernel
theorem d_Ma_init_1 : decode b_Ma_init 1 = .ok (.invokespecial 3, 3) := by decide +kernel
theorem d_Ma_init_4 : decode b_Ma_init 4 = .ok (.aload_n 0, 1) := by decide +kernel
theorem d_Ma_init_5 : decode b_Ma_init 5 = .ok (.new 9, 3) := by decide +kernel
theorem d_Ma_init_8 : decode b_Ma_init 8 = .ok (.dup, 1) := by decide +kernel
theorem d_Ma_init_9 : decode b_Ma_init 9 = .ok (.iconst 1, 1) := by decide +kernel
theorem d_Ma_init_10 : decode b_Ma_init 10 = .ok (.invokespecial 11, 3) := by decide +kernel
theorem d_Ma_init_13 : decode b_Ma_init 13 = .ok (.putfield 14, 3) := by decide +kernel
theorem d_Ma_init_16 : decode b_Ma_init 16 = .ok (.aload_n 0, 1) := by decide +kernel
theorem d_Ma_init_17 : decode b_Ma_init 17 = .ok (.new 9, 3) := by decide +kernel
theorem d_Ma_init_20 : decode b_Ma_init 20 = .ok (.dup, 1) := by decide +kernel
theorem d_Ma_init_21 : decode b_Ma_init 21 = .ok (.sipush 256, 3) := by decide +kernel
theorem d_Ma_init_24 : decode b_Ma_init 24 = .ok (.invokespecial 11, 3) := by decide +kernel
theorem d_Ma_init_27 : decode b_Ma_init 27 = .ok (.putfield 20, 3) := by decide +kernel
theorem d_Ma_init_30 : decode b_Ma_init 30 = .ok (.aload_n 0, 1) := by decide +kernel
theorem d_Ma_init_31 : decode b_Ma_init 31 = .ok (.new 9, 3) := by decide +kernel
theorem d_Ma_init_34 : decode b_Ma_init 34 = .ok (.dup, 1) := by decide +kernel
theorem d_Ma_init_35 : decode b_Ma_init 35 = .ok (.sipush 256, 3) := by decide +kernel
theorem d_Ma_init_38 : decode b_Ma_init 38 = .ok (.invokespecial 11, 3) := by decide +kernel
theorem d_Ma_init_41 : decode b_Ma_init 41 = .ok (.putfield 23, 3) := by decide +kernel
theorem d_Ma_init_44 : decode b_Ma_init 44 = .ok (.aload_n 0, 1) := by decide +kernel
theorem d_Ma_init_45 : decode b_Ma_init 45 = .ok (.iconst 1, 1) := by decide +kernel
theorem d_Ma_init_46 : decode b_Ma_init 46 = .ok (.invokevirtual 26, 3) := by decide +kernel
theorem d_Ma_init_49 : decode b_Ma_init 49 = .ok (.return_, 1) := by decide +kernel
theorem d_Ma_isState_0 : decode b_Ma_isState 0 = .ok (.iload_n 1, 1) := by decide +kernel
theorem d_Ma_isState_1 : decode b_Ma_isState 1 = .ok (.ifCond .lt 15, 3) := by decide +kernel
theorem d_Ma_isState_4 : decode b_Ma_isState 4 = .ok (.iload_n 1, 1) := by decide +kernel
theorem d_Ma_isState_5 : decode b_Ma_isState 5 = .ok (.aload_n 0, 1) := by decide +kernel
theorem d_Ma_isState_6 : decode b_Ma_isState 6 = .ok (.getfield 29, 3) := by decide +kernel
theorem d_Ma_isState_9 : decode b_Ma_isState 9 = .ok (.if_icmp .ge 7, 3) := by decide +kernel
theorem d_Ma_isState_12 : decode b_Ma_isState 12 = .ok (.iconst 1, 1) := by decide +kernel
theorem d_Ma_isState_13 : decode b_Ma_isState 13 = .ok (.goto 4, 3) := by decide +kernel
theorem d_Ma_isState_16 : decode b_Ma_isState 16 = .ok (.iconst 0, 1) := by decide +kernel
theorem d_Ma_isState_17 : decode b_Ma_isState 17 = .ok (.ireturn, 1) := by decide +kernel
theorem d_Ma_restart_0 : decode b_Ma_restart 0 = .ok (.aload_n 0, 1) := by decide +kernel
theorem d_Ma_restart_1 : decode b_Ma_restart 1 = .ok (.iconst 1, 1) := by decide +kernel
theorem d_Ma_restart_2 : decode b_Ma_restart 2 = .ok (.iload_n 1, 1) := by decide +kernel
theorem d_Ma_restart_3 : decode b_Ma_restart 3 = .ok (.ishl, 1) := by decide +kernel
theorem d_Ma_restart_4 : decode b_Ma_restart 4 = .ok (.putfield 29, 3) := by decide +kernel
theorem d_Ma_restart_7 : decode b_Ma_restart 7 = .ok (.aload_n 0, 1) := by decide +kernel
theorem d_Ma_restart_8 : decode b_Ma_restart 8 = .ok (.iconst 0, 1) := by decide +kernel
theorem d_Ma_restart_9 : decode b_Ma_restart 9 = .ok (.putfield 33, 3) := by decide +kernel
theorem d_Ma_restart_12 : decode b_Ma_restart 12 = .ok (.aload_n 0, 1) := by decide +kernel
theorem d_Ma_restart_13 : decode b_Ma_restart 13 = .ok (.getfield 14, 3) := by decide +kernel
theorem d_Ma_restart_16 : decode b_Ma_restart 16 = .ok (.invokevirtual 36, 3) := by decide +kernel
theorem d_Ma_restart_19 : decode b_Ma_restart 19 = .ok (.aload_n 0, 1) := by decide +kernel
theorem d_Ma_restart_20 : decode b_Ma_restart 20 = .ok (.getfield 20, 3) := by decide +kernel
theorem d_Ma_restart_23 : decode b_Ma_restart 23 = .ok (.invokevirtual 36, 3) := by decide +kernel
theorem d_Ma_restart_26 : decode b_Ma_restart 26 = .ok (.aload_n 0, 1) := by decide +kernel
theorem d_Ma_restart_27 : decode b_Ma_restart 27 = .ok (.getfield 23, 3) := by decide +kernel
theorem d_Ma_restart_30 : decode b_Ma_restart 30 = .ok (.invokevirtual 36, 3) := by decide +kernel
theorem d_Ma_restart_33 : decode b_Ma_restart 33 = .ok (.iconst 0, 1) := by decide +kernel
theorem d_Ma_restart_34 : decode b_Ma_restart 34 = .ok (.istore_n 2, 1) := by decide +kernel
theorem d_Ma_restart_35 : decode b_Ma_restart 35 = .ok (.iload_n 2, 1) := by decide +kernel
theorem d_Ma_restart_36 : decode b_Ma_restart 36 = .ok (.aload_n 0, 1) := by decide +kernel
theorem d_Ma_restart_37 : decode b_Ma_restart 37 = .ok (.getfield 29, 3) := by decide +kernel
theorem d_Ma_restart_40 : decode b_Ma_restart 40 = .ok (.if_icmp .ge 18, 3) := by decide +kernel
theorem d_Ma_restart_43 : decode b_Ma_restart 43 = .ok (.aload_n 0, 1) := by decide +kernel
theorem d_Ma_restart_44 : decode b_Ma_restart 44 = .ok (.getfield 14, 3) := by decide +kernel
theorem d_Ma_restart_47 : decode b_Ma_restart 47 = .ok (.iconst 0, 1) := by decide +kernel
theorem d_Ma_restart_48 : decode b_Ma_restart 48 = .ok (.iload_n 2, 1) := by decide +kernel
theorem d_Ma_restart_49 : decode b_Ma_restart 49 = .ok (.invokevirtual 39, 3) := by decide +kernel
theorem d_Ma_restart_52 : decode b_Ma_restart 52 = .ok (.iinc 2 1, 3) := by decide +kernel
theorem d_Ma_restart_55 : decode b_Ma_restart 55 = .ok (.goto (-20), 3) := by decide +kernel
theorem d_Ma_restart_58 : decode b_Ma_restart 58 = .ok (.return_, 1) := by decide +kernel
theorem d_Se_find_0 : decode b_Se_find 0 = .ok (.aload_n 0, 1) := by decide +kernel
theorem d_Se_find_1 : decode b_Se_find 1 = .ok (.getfield 37, 3) := by decide +kernel
theorem d_Se_find_4 : decode b_Se_find 4 = .ok (.sipush 256, 3) := by decide +kernel
theorem d_Se_find_7 : decode b_Se_find 7 = .ok (.if_icmp .ge 30, 3) := by decide +kernel
theorem d_Se_find_10 : decode b_Se_find 10 = .ok (.aload_n 0, 1) := by decide +kernel
theorem d_Se_find_11 : decode b_Se_find 11 = .ok (.getfield 20, 3) := by decide +kernel
theorem d_Se_find_14 : decode b_Se_find 14 = .ok (.aload_n 0, 1) := by decide +kernel
theorem d_Se_find_15 : decode b_Se_find 15 = .ok (.getfield 37, 3) := by decide +kernel
theorem d_Se_find_18 : decode b_Se_find 18 = .ok (.iload_n 1, 1) := by decide +kernel
theorem d_Se_find_19 : decode b_Se_find 19 = .ok (.iastore, 1) := by decide +kernel
theorem d_Se_find_20 : decode b_Se_find 20 = .ok (.aload_n 0, 1) := by decide +kernel
theorem d_Se_find_21 : decode b_Se_find 21 = .ok (.dup, 1) := by decide +kernel
theorem d_Se_find_22 : decode b_Se_find 22 = .ok (.getfield 37, 3) := by decide +kernel
theorem d_Se_find_25 : decode b_Se_find 25 = .ok (.iconst 1, 1) := by decide +kernel
theorem d_Se_find_26 : decode b_Se_find 26 = .ok (.iadd, 1) := by decide +kernel
theorem d_Se_find_27 : decode b_Se_find 27 = .ok (.putfield 37, 3) := by decide +kernel
theorem d_Se_find_30 : decode b_Se_find 30 = .ok (.aload_n 0, 1) := by decide +kernel
theorem d_Se_find_31 : decode b_Se_find 31 = .ok (.getfield 24, 3) := by decide +kernel
theorem d_Se_find_34 : decode b_Se_find 34 = .ok (.iload_n 1, 1) := by decide +kernel
theorem d_Se_find_35 : decode b_Se_find 35 = .ok (.iload_n 2, 1) := by decide +kernel
theorem d_Se_find_36 : decode b_Se_find 36 = .ok (.iastore, 1) := by decide +kernel
theorem d_Se_find_37 : decode b_Se_find 37 = .ok (.return_, 1) := by decide +kernel
theorem d_Se_init_0 : decode b_Se_init 0 = .ok (.aload_n 0, 1) := by decide +kernel
theorem d_Se_init_1 : decode b_Se_init 1 = .ok (.invokespecial 3, 3) := by decide +kernel
theorem d_Se_init_4 : decode b_Se_init 4 = .ok (.aload_n 0, 1) := by decide +kernel
theorem d_Se_init_5 : decode b_Se_init 5 = .ok (.new 9, 3) := by decide +kernel
theorem d_Se_init_8 : decode b_Se_init 8 = .ok (.dup, 1) := by decide +kernel
theorem d_Se_init_9 : decode b_Se_init 9 = .ok (.iconst 1, 1) := by decide +kernel
theorem d_Se_init_10 : decode b_Se_init 10 = .ok (.invokespecial 11, 3) := by decide +kernel
theorem d_Se_init_13 : decode b_Se_init 13 = .ok (.putfield 14, 3) := by decide +kernel
theorem d_Se_init_16 : decode b_Se_init 16 = .ok (.aload_n 0, 1) := by decide +kernel
theorem d_Se_init_17 : decode b_Se_init 17 = .ok (.sipush 256, 3) := by decide +kernel
theorem d_Se_init_20 : decode b_Se_init 20 = .ok (.newarray .int, 2) := by decide +kernel
theorem d_Se_init_22 : decode b_Se_init 22 = .ok (.putfield 20, 3) := by decide +kernel
theorem d_Se_init_25 : decode b_Se_init 25 = .ok (.aload_n 0, 1) := by decide +kernel
theorem d_Se_init_26 : decode b_Se_init 26 = .ok (.sipush 256, 3) := by decide +kernel
theorem d_Se_init_29 : decode b_Se_init 29 = .ok (.newarray .int, 2) := by decide +kernel
theorem d_Se_init_31 : decode b_Se_init 31 = .ok (.putfield 24, 3) := by decide +kernel
theorem d_Se_init_34 : decode b_Se_init 34 = .ok (.aload_n 0, 1) := by decide +kernel
theorem d_Se_init_35 : decode b_Se_init 35 = .ok (.sipush 256, 3) := by decide +kernel
theorem d_Se_init_38 : decode b_Se_init 38 = .ok (.newarray .int, 2) := by decide +kernel
theorem d_Se_init_40 : decode b_Se_init 40 = .ok (.putfield 27, 3) := by decide +kernel
theorem d_Se_init_43 : decode b_Se_init 43 = .ok (.aload_n 0, 1) := by decide +kernel
theorem d_Se_init_44 : decode b_Se_init 44 = .ok (.sipush 256, 3) := by decide +kernel
theorem d_Se_init_47 : decode b_Se_init 47 = .ok (.newarray .int, 2) := by decide +kernel
theorem d_Se_init_49 : decode b_Se_init 49 = .ok (.putfield 30, 3) := by decide +kernel
theorem d_Se_init_52 : decode b_Se_init 52 = .ok (.return_, 1) := by decide +kernel
theorem d_Se_listEnded_0 : decode b_Se_listEnded 0 = .ok (.iconst 0, 1) := by decide +kernel
theorem d_Se_listEnded_1 : decode b_Se_listEnded 1 = .ok (.istore_n 3, 1) := by decide +kernel
theorem d_Se_listEnded_2 : decode b_Se_listEnded 2 = .ok (.iconst 0, 1) := by decide +kernel
theorem d_Se_listEnded_3 : decode b_Se_listEnded 3 = .ok (.istore 4, 2) := by decide +kernel
theorem d_Se_listEnded_5 : decode b_Se_listEnded 5 = .ok (.iload 4, 2) := by decide +kernel
theorem d_Se_listEnded_7 : decode b_Se_listEnded 7 = .ok (.iload_n 2, 1) := by decide +kernel
theorem d_Se_listEnded_8 : decode b_Se_listEnded 8 = .ok (.if_icmp .ge 143, 3) := by decide +kernel
theorem d_Se_listEnded_11 : decode b_Se_listEnded 11 = .ok (.iconst 0, 1) := by decide +kernel
theorem d_Se_listEnded_12 : decode b_Se_listEnded 12 = .ok (.istore 5, 2) := by decide +kernel
theorem d_Se_listEnded_14 : decode b_Se_listEnded 14 = .ok (.aload_n 0, 1) := by decide +kernel
theorem d_Se_listEnded_15 : decode b_Se_listEnded 15 = .ok (.getfield 14, 3) := by decide +kernel
theorem d_Se_listEnded_18 : decode b_Se_listEnded 18 = .ok (.iconst 0, 1) := by decide +kernel
theorem d_Se_listEnded_19 : decode b_Se_listEnded 19 = .ok (.iload 4, 2) := by decide +kernel
theorem d_Se_listEnded_21 : decode b_Se_listEnded 21 = .ok (.invokevirtual 49, 3) := by decide +kernel
theorem d_Se_listEnded_24 : decode b_Se_listEnded 24 = .ok (.ifCond .eq 24, 3) := by decide +kernel
theorem d_Se_listEnded_27 : decode b_Se_listEnded 27 = .ok (.aload_n 0, 1) := by decide +kernel
theorem d_Se_listEnded_28 : decode b_Se_listEnded 28 = .ok (.getfield 14, 3) := by decide +kernel
theorem d_Se_listEnded_31 : decode b_Se_listEnded 31 = .ok (.iconst 0, 1) := by decide +kernel
theorem d_Se_listEnded_32 : decode b_Se_listEnded 32 = .ok (.iload 4, 2) := by decide +kernel
theorem d_Se_listEnded_34 : decode b_Se_listEnded 34 = .ok (.invokevirtual 53, 3) := by decide +kernel
theorem d_Se_listEnded_37 : decode b_Se_listEnded 37 = .ok (.aload_n 0, 1) := by decide +kernel
theorem d_Se_listEnded_38 : decode b_Se_listEnded 38 = .ok (.getfield 27, 3) := by decide +kernel
theorem d_Se_listEnded_41 : decode b_Se_listEnded 41 = .ok (.iconst 0, 1) := by decide +kernel
theorem d_Se_listEnded_42 : decode b_Se_listEnded 42 = .ok (.iload 4, 2) := by decide +kernel
theorem d_Se_listEnded_44 : decode b_Se_listEnded 44 = .ok (.iastore, 1) := by decide +kernel
theorem d_Se_listEnded_45 : decode b_Se_listEnded 45 = .ok (.iconst 1, 1) := by decide +kernel
theorem d_Se_listEnded_46 : decode b_Se_listEnded 46 = .ok (.istore 5, 2) := by decide +kernel
theorem d_Se_listEnded_48 : decode b_Se_listEnded 48 = .ok (.iconst 0, 1) := by decide +kernel
theorem d_Se_listEnded_49 : decode b_Se_listEnded 49 = .ok (.istore 6, 2) := by decide +kernel
theorem d_Se_listEnded_51 : decode b_Se_listEnded 51 = .ok (.iload 5, 2) := by decide +kernel
theorem d_Se_listEnded_53 : decode b_Se_listEnded 53 = .ok (.ifCond .le 92, 3) := by decide +kernel
theorem d_Se_listEnded_56 : decode b_Se_listEnded 56 = .ok (.iload 6, 2) := by decide +kernel
theorem d_Se_listEnded_58 : decode b_Se_listEnded 58 = .ok (.sipush 512, 3) := by decide +kernel
theorem d_Se_listEnded_61 : decode b_Se_listEnded 61 = .ok (.if_icmp .ge 84, 3) := by decide +kernel
theorem d_Se_listEnded_64 : decode b_Se_listEnded 64 = .ok (.aload_n 0, 1) := by decide +kernel
theorem d_Se_listEnded_65 : decode b_Se_listEnded 65 = .ok (.getfield 14, 3) := by decide +kernel
theorem d_Se_listEnded_68 : decode b_Se_listEnded 68 = .ok (.iconst 0, 1) := by decide +kernel
theorem d_Se_listEnded_69 : decode b_Se_listEnded 69 = .ok (.aload_n 1, 1) := by decide +kernel
theorem d_Se_listEnded_70 : decode b_Se_listEnded 70 = .ok (.aload_n 0, 1) := by decide +kernel
theorem d_Se_listEnded_71 : decode b_Se_listEnded 71 = .ok (.getfield 27, 3) := by decide +kernel
theorem d_Se_listEnded_74 : decode b_Se_listEnded 74 = .ok (.iload 5, 2) := by decide +kernel
theorem d_Se_listEnded_76 : decode b_Se_listEnded 76 = .ok (.iconst 1, 1) := by decide +kernel
theorem d_Se_listEnded_77 : decode b_Se_listEnded 77 = .ok (.isub, 1) := by decide +kernel
theorem d_Se_listEnded_78 : decode b_Se_listEnded 78 = .ok (.iaload, 1) := by decide +kernel
theorem d_Se_listEnded_79 : decode b_Se_listEnded 79 = .ok (.invokevirtual 41, 3) := by decide +kernel
theorem d_Se_listEnded_82 : decode b_Se_listEnded 82 = .ok (.istore 7, 2) := by decide +kernel
theorem d_Se_listEnded_84 : decode b_Se_listEnded 84 = .ok (.iload 7, 2) := by decide +kernel
theorem d_Se_listEnded_86 : decode b_Se_listEnded 86 = .ok (.iconst (-1), 1) := by decide +kernel
theorem d_Se_listEnded_87 : decode b_Se_listEnded 87 = .ok (.if_icmp .eq 26, 3) := by decide +kernel
theorem d_Se_listEnded_90 : decode b_Se_listEnded 90 = .ok (.iload 5, 2) := by decide +kernel
theorem d_Se_listEnded_92 : decode b_Se_listEnded 92 = .ok (.sipush 256, 3) := by decide +kernel
theorem d_Se_listEnded_95 : decode b_Se_listEnded 95 = .ok (.if_icmp .ge 18, 3) := by decide +kernel
theorem d_Se_listEnded_98 : decode b_Se_listEnded 98 = .ok (.aload_n 0, 1) := by decide +kernel
theorem d_Se_listEnded_99 : decode b_Se_listEnded 99 = .ok (.getfield 27, 3) := by decide +kernel
theorem d_Se_listEnded_102 : decode b_Se_listEnded 102 = .ok (.iload 5, 2) := by decide +kernel
theorem d_Se_listEnded_104 : decode b_Se_listEnded 104 = .ok (.iload 7, 2) := by decide +kernel
theorem d_Se_listEnded_106 : decode b_Se_listEnded 106 = .ok (.iastore, 1) := by decide +kernel
theorem d_Se_listEnded_107 : decode b_Se_listEnded 107 = .ok (.iinc 5 1, 3) := by decide +kernel
theorem d_Se_listEnded_110 : decode b_Se_listEnded 110 = .ok (.goto 29, 3) := by decide +kernel
theorem d_Se_listEnded_113 : decode b_Se_listEnded 113 = .ok (.iload_n 3, 1) := by decide +kernel
theorem d_Se_listEnded_114 : decode b_Se_listEnded 114 = .ok (.sipush 256, 3) := by decide +kernel
theorem d_Se_listEnded_117 : decode b_Se_listEnded 117 = .ok (.if_icmp .ge 22, 3) := by decide +kernel
theorem d_Se_listEnded_120 : decode b_Se_listEnded 120 = .ok (.iinc 5 (-1), 3) := by decide +kernel
theorem d_Se_listEnded_123 : decode b_Se_listEnded 123 = .ok (.aload_n 0, 1) := by decide +kernel
theorem d_Se_listEnded_124 : decode b_Se_listEnded 124 = .ok (.getfield 30, 3) := by decide +kernel
theorem d_Se_listEnded_127 : decode b_Se_listEnded 127 = .ok (.iload_n 3, 1) := by decide +kernel
theorem d_Se_listEnded_128 : decode b_Se_listEnded 128 = .ok (.aload_n 0, 1) := by decide +kernel
theorem d_Se_listEnded_129 : decode b_Se_listEnded 129 = .ok (.getfield 27, 3) := by decide +kernel
theorem d_Se_listEnded_132 : decode b_Se_listEnded 132 = .ok (.iload 5, 2) := by decide +kernel
theorem d_Se_listEnded_134 : decode b_Se_listEnded 134 = .ok (.iaload, 1) := by decide +kernel
theorem d_Se_listEnded_135 : decode b_Se_listEnded 135 = .ok (.iastore, 1) := by decide +kernel
theorem d_Se_listEnded_136 : decode b_Se_listEnded 136 = .ok (.iinc 3 1, 3) := by decide +kernel
theorem d_Se_listEnded_139 : decode b_Se_listEnded 139 = .ok (.iinc 6 1, 3) := by decide +kernel
theorem d_Se_listEnded_142 : decode b_Se_listEnded 142 = .ok (.goto (-91), 3) := by decide +kernel
theorem d_Se_listEnded_145 : decode b_Se_listEnded 145 = .ok (.iinc 4 1, 3) := by decide +kernel
theorem d_Se_listEnded_148 : decode b_Se_listEnded 148 = .ok (.goto (-143), 3) := by decide +kernel
theorem d_Se_listEnded_151 : decode b_Se_listEnded 151 = .ok (.iload_n 3, 1) := by decide +kernel
theorem d_Se_listEnded_152 : decode b_Se_listEnded 152 = .ok (.ireturn, 1) := by decide +kernel
theorem d_Se_openAll_0 : decode b_Se_openAll 0 = .ok (.aload_n 0, 1) := by decide +kernel
theorem d_Se_openAll_1 : decode b_Se_openAll 1 = .ok (.getfield 14, 3) := by decide +kernel
theorem d_Se_openAll_4 : decode b_Se_openAll 4 = .ok (.iconst 0, 1) := by decide +kernel
theorem d_Se_openAll_5 : decode b_Se_openAll 5 = .ok (.aload_n 1, 1) := by decide +kernel
theorem d_Se_openAll_6 : decode b_Se_openAll 6 = .ok (.iload_n 2, 1) := by decide +kernel
theorem d_Se_openAll_7 : decode b_Se_openAll 7 = .ok (.invokevirtual 33, 3) := by decide +kernel
theorem d_Se_openAll_10 : decode b_Se_openAll 10 = .ok (.aload_n 0, 1) := by decide +kernel
theorem d_Se_openAll_11 : decode b_Se_openAll 11 = .ok (.iconst 0, 1) := by decide +kernel
theorem d_Se_openAll_12 : decode b_Se_openAll 12 = .ok (.putfield 37, 3) := by decide +kernel
theorem d_Se_openAll_15 : decode b_Se_openAll 15 = .ok (.return_, 1) := by decide +kernel
theorem d_Se_spread_0 : decode b_Se_spread 0 = .ok (.iconst 0, 1) := by decide +kernel
theorem d_Se_spread_1 : decode b_Se_spread 1 = .ok (.istore_n 2, 1) := by decide +kernel
theorem d_Se_spread_2 : decode b_Se_spread 2 = .ok (.iload_n 2, 1) := by decide +kernel
theorem d_Se_spread_3 : decode b_Se_spread 3 = .ok (.aload_n 0, 1) := by decide +kernel
theorem d_Se_spread_4 : decode b_Se_spread 4 = .ok (.getfield 37, 3) := by decide +kernel
theorem d_Se_spread_7 : decode b_Se_spread 7 = .ok (.if_icmp .ge 84, 3) := by decide +kernel
theorem d_Se_spread_10 : decode b_Se_spread 10 = .ok (.iload_n 2, 1) := by decide +kernel
theorem d_Se_spread_11 : decode b_Se_spread 11 = .ok (.sipush 256, 3) := by decide +kernel
theorem d_Se_spread_14 : decode b_Se_spread 14 = .ok (.if_icmp .ge 77, 3) := by decide +kernel
theorem d_Se_spread_17 : decode b_Se_spread 17 = .ok (.aload_n 0, 1) := by decide +kernel
theorem d_Se_spread_18 : decode b_Se_spread 18 = .ok (.getfield 20, 3) := by decide +kernel
theorem d_Se_spread_21 : decode b_Se_spread 21 = .ok (.iload_n 2, 1) := by decide +kernel
theorem d_Se_spread_22 : decode b_Se_spread 22 = .ok (.iaload, 1) := by decide +kernel
theorem d_Se_spread_23 : decode b_Se_spread 23 = .ok (.istore_n 3, 1) := by decide +kernel
theorem d_Se_spread_24 : decode b_Se_spread 24 = .ok (.aload_n 0, 1) := by decide +kernel
theorem d_Se_spread_25 : decode b_Se_spread 25 = .ok (.getfield 14, 3) := by decide +kernel
theorem d_Se_spread_28 : decode b_Se_spread 28 = .ok (.iconst 0, 1) := by decide +kernel
theorem d_Se_spread_29 : decode b_Se_spread 29 = .ok (.aload_n 1, 1) := by decide +kernel
theorem d_Se_spread_30 : decode b_Se_spread 30 = .ok (.iload_n 3, 1) := by decide +kernel
theorem d_Se_spread_31 : decode b_Se_spread 31 = .ok (.invokevirtual 41, 3) := by decide +kernel
theorem d_Se_spread_34 : decode b_Se_spread 34 = .ok (.istore 4, 2) := by decide +kernel
theorem d_Se_spread_36 : decode b_Se_spread 36 = .ok (.iconst 0, 1) := by decide +kernel
theorem d_Se_spread_37 : decode b_Se_spread 37 = .ok (.istore 5, 2) := by decide +kernel
theorem d_Se_spread_39 : decode b_Se_spread 39 = .ok (.iload 4, 2) := by decide +kernel
theorem d_Se_spread_41 : decode b_Se_spread 41 = .ok (.iconst (-1), 1) := by decide +kernel
theorem d_Se_spread_42 : decode b_Se_spread 42 = .ok (.if_icmp .eq 43, 3) := by decide +kernel
theorem d_Se_spread_45 : decode b_Se_spread 45 = .ok (.iload 5, 2) := by decide +kernel
theorem d_Se_spread_47 : decode b_Se_spread 47 = .ok (.sipush 256, 3) := by decide +kernel
theorem d_Se_spread_50 : decode b_Se_spread 50 = .ok (.if_icmp .ge 35, 3) := by decide +kernel
theorem d_Se_spread_53 : decode b_Se_spread 53 = .ok (.aload_n 0, 1) := by decide +kernel
theorem d_Se_spread_54 : decode b_Se_spread 54 = .ok (.iload 4, 2) := by decide +kernel
theorem d_Se_spread_56 : decode b_Se_spread 56 = .ok (.aload_n 0, 1) := by decide +kernel
theorem d_Se_spread_57 : decode b_Se_spread 57 = .ok (.getfield 24, 3) := by decide +kernel
theorem d_Se_spread_60 : decode b_Se_spread 60 = .ok (.iload_n 3, 1) := by decide +kernel
theorem d_Se_spread_61 : decode b_Se_spread 61 = .ok (.iaload, 1) := by decide +kernel
theorem d_Se_spread_62 : decode b_Se_spread 62 = .ok (.iconst 1, 1) := by decide +kernel
theorem d_Se_spread_63 : decode b_Se_spread 63 = .ok (.iadd, 1) := by decide +kernel
theorem d_Se_spread_64 : decode b_Se_spread 64 = .ok (.invokevirtual 45, 3) := by decide +kernel
theorem d_Se_spread_67 : decode b_Se_spread 67 = .ok (.aload_n 0, 1) := by decide +kernel
theorem d_Se_spread_68 : decode b_Se_spread 68 = .ok (.getfield 14, 3) := by decide +kernel
theorem d_Se_spread_71 : decode b_Se_spread 71 = .ok (.iconst 0, 1) := by decide +kernel
theorem d_Se_spread_72 : decode b_Se_spread 72 = .ok (.aload_n 1, 1) := by decide +kernel
theorem d_Se_spread_73 : decode b_Se_spread 73 = .ok (.iload_n 3, 1) := by decide +kernel
theorem d_Se_spread_74 : decode b_Se_spread 74 = .ok (.invokevirtual 41, 3) := by decide +kernel
theorem d_Se_spread_77 : decode b_Se_spread 77 = .ok (.istore 4, 2) := by decide +kernel
theorem d_Se_spread_79 : decode b_Se_spread 79 = .ok (.iinc 5 1, 3) := by decide +kernel
theorem d_Se_spread_82 : decode b_Se_spread 82 = .ok (.goto (-43), 3) := by decide +kernel
theorem d_Se_spread_85 : decode b_Se_spread 85 = .ok (.iinc 2 1, 3) := by decide +kernel
theorem d_Se_spread_88 : decode b_Se_spread 88 = .ok (.goto (-86), 3) := by decide +kernel
theorem d_Se_spread_91 : decode b_Se_spread 91 = .ok (.return_, 1) := by decide +kernel
