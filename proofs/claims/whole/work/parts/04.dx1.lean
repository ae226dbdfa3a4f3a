theorem dX1_init_0 : decode cX1_init 0 = .ok (.aload_n 0, 1) := by decide +kernel
theorem dX1_init_1 : decode cX1_init 1 = .ok (.invokespecial 1, 3) := by decide +kernel
theorem dX1_init_4 : decode cX1_init 4 = .ok (.aload_n 0, 1) := by decide +kernel
theorem dX1_init_5 : decode cX1_init 5 = .ok (.iconst 2, 1) := by decide +kernel
theorem dX1_init_6 : decode cX1_init 6 = .ok (.putfield 7, 3) := by decide +kernel
theorem dX1_init_9 : decode cX1_init 9 = .ok (.aload_n 0, 1) := by decide +kernel
theorem dX1_init_10 : decode cX1_init 10 = .ok (.iconst 2, 1) := by decide +kernel
theorem dX1_init_11 : decode cX1_init 11 = .ok (.putfield 13, 3) := by decide +kernel
theorem dX1_init_14 : decode cX1_init 14 = .ok (.aload_n 0, 1) := by decide +kernel
theorem dX1_init_15 : decode cX1_init 15 = .ok (.iconst 3, 1) := by decide +kernel
theorem dX1_init_16 : decode cX1_init 16 = .ok (.putfield 16, 3) := by decide +kernel
theorem dX1_init_19 : decode cX1_init 19 = .ok (.aload_n 0, 1) := by decide +kernel
theorem dX1_init_20 : decode cX1_init 20 = .ok (.iconst 3, 1) := by decide +kernel
theorem dX1_init_21 : decode cX1_init 21 = .ok (.putfield 19, 3) := by decide +kernel
theorem dX1_init_24 : decode cX1_init 24 = .ok (.aload_n 0, 1) := by decide +kernel
theorem dX1_init_25 : decode cX1_init 25 = .ok (.bipush 12, 2) := by decide +kernel
theorem dX1_init_27 : decode cX1_init 27 = .ok (.newarray .int, 2) := by decide +kernel
theorem dX1_init_29 : decode cX1_init 29 = .ok (.putfield 22, 3) := by decide +kernel
theorem dX1_init_32 : decode cX1_init 32 = .ok (.aload_n 0, 1) := by decide +kernel
theorem dX1_init_33 : decode cX1_init 33 = .ok (.bipush 12, 2) := by decide +kernel
theorem dX1_init_35 : decode cX1_init 35 = .ok (.newarray .int, 2) := by decide +kernel
theorem dX1_init_37 : decode cX1_init 37 = .ok (.putfield 26, 3) := by decide +kernel
theorem dX1_init_40 : decode cX1_init 40 = .ok (.aload_n 0, 1) := by decide +kernel
theorem dX1_init_41 : decode cX1_init 41 = .ok (.bipush 12, 2) := by decide +kernel
theorem dX1_init_43 : decode cX1_init 43 = .ok (.newarray .int, 2) := by decide +kernel
theorem dX1_init_45 : decode cX1_init 45 = .ok (.putfield 29, 3) := by decide +kernel
theorem dX1_init_48 : decode cX1_init 48 = .ok (.aload_n 0, 1) := by decide +kernel
theorem dX1_init_49 : decode cX1_init 49 = .ok (.bipush 60, 2) := by decide +kernel
theorem dX1_init_51 : decode cX1_init 51 = .ok (.newarray .int, 2) := by decide +kernel
theorem dX1_init_53 : decode cX1_init 53 = .ok (.putfield 32, 3) := by decide +kernel
theorem dX1_init_56 : decode cX1_init 56 = .ok (.aload_n 0, 1) := by decide +kernel
theorem dX1_init_57 : decode cX1_init 57 = .ok (.bipush 60, 2) := by decide +kernel
theorem dX1_init_59 : decode cX1_init 59 = .ok (.newarray .int, 2) := by decide +kernel
theorem dX1_init_61 : decode cX1_init 61 = .ok (.putfield 35, 3) := by decide +kernel
theorem dX1_init_64 : decode cX1_init 64 = .ok (.aload_n 0, 1) := by decide +kernel
theorem dX1_init_65 : decode cX1_init 65 = .ok (.bipush 60, 2) := by decide +kernel
theorem dX1_init_67 : decode cX1_init 67 = .ok (.newarray .int, 2) := by decide +kernel
theorem dX1_init_69 : decode cX1_init 69 = .ok (.putfield 38, 3) := by decide +kernel
theorem dX1_init_72 : decode cX1_init 72 = .ok (.aload_n 0, 1) := by decide +kernel
theorem dX1_init_73 : decode cX1_init 73 = .ok (.bipush 8, 2) := by decide +kernel
theorem dX1_init_75 : decode cX1_init 75 = .ok (.newarray .int, 2) := by decide +kernel
theorem dX1_init_77 : decode cX1_init 77 = .ok (.putfield 41, 3) := by decide +kernel
theorem dX1_init_80 : decode cX1_init 80 = .ok (.aload_n 0, 1) := by decide +kernel
theorem dX1_init_81 : decode cX1_init 81 = .ok (.bipush 96, 2) := by decide +kernel
theorem dX1_init_83 : decode cX1_init 83 = .ok (.newarray .int, 2) := by decide +kernel
theorem dX1_init_85 : decode cX1_init 85 = .ok (.putfield 44, 3) := by decide +kernel
theorem dX1_init_88 : decode cX1_init 88 = .ok (.aload_n 0, 1) := by decide +kernel
theorem dX1_init_89 : decode cX1_init 89 = .ok (.bipush 96, 2) := by decide +kernel
theorem dX1_init_91 : decode cX1_init 91 = .ok (.newarray .int, 2) := by decide +kernel
theorem dX1_init_93 : decode cX1_init 93 = .ok (.putfield 47, 3) := by decide +kernel
theorem dX1_init_96 : decode cX1_init 96 = .ok (.aload_n 0, 1) := by decide +kernel
theorem dX1_init_97 : decode cX1_init 97 = .ok (.bipush 12, 2) := by decide +kernel
theorem dX1_init_99 : decode cX1_init 99 = .ok (.newarray .int, 2) := by decide +kernel
theorem dX1_init_101 : decode cX1_init 101 = .ok (.putfield 50, 3) := by decide +kernel
theorem dX1_init_104 : decode cX1_init 104 = .ok (.return_, 1) := by decide +kernel
theorem dX1_isIn_0 : decode cX1_isIn 0 = .ok (.iload_n 0, 1) := by decide +kernel
theorem dX1_isIn_1 : decode cX1_isIn 1 = .ok (.iload_n 1, 1) := by decide +kernel
theorem dX1_isIn_2 : decode cX1_isIn 2 = .ok (.if_icmp .lt 12, 3) := by decide +kernel
theorem dX1_isIn_5 : decode cX1_isIn 5 = .ok (.iload_n 0, 1) := by decide +kernel
theorem dX1_isIn_6 : decode cX1_isIn 6 = .ok (.iload_n 2, 1) := by decide +kernel
theorem dX1_isIn_7 : decode cX1_isIn 7 = .ok (.if_icmp .gt 7, 3) := by decide +kernel
theorem dX1_isIn_10 : decode cX1_isIn 10 = .ok (.iconst 1, 1) := by decide +kernel
theorem dX1_isIn_11 : decode cX1_isIn 11 = .ok (.goto 4, 3) := by decide +kernel
theorem dX1_isIn_14 : decode cX1_isIn 14 = .ok (.iconst 0, 1) := by decide +kernel
theorem dX1_isIn_15 : decode cX1_isIn 15 = .ok (.ireturn, 1) := by decide +kernel
theorem dX1_isThing_0 : decode cX1_isThing 0 = .ok (.iload_n 1, 1) := by decide +kernel
theorem dX1_isThing_1 : decode cX1_isThing 1 = .ok (.iconst 0, 1) := by decide +kernel
theorem dX1_isThing_2 : decode cX1_isThing 2 = .ok (.aload_n 0, 1) := by decide +kernel
theorem dX1_isThing_3 : decode cX1_isThing 3 = .ok (.getfield 53, 3) := by decide +kernel
theorem dX1_isThing_6 : decode cX1_isThing 6 = .ok (.iconst 1, 1) := by decide +kernel
theorem dX1_isThing_7 : decode cX1_isThing 7 = .ok (.isub, 1) := by decide +kernel
theorem dX1_isThing_8 : decode cX1_isThing 8 = .ok (.invokestatic 56, 3) := by decide +kernel
theorem dX1_isThing_11 : decode cX1_isThing 11 = .ok (.ireturn, 1) := by decide +kernel
theorem dX1_isPerson_0 : decode cX1_isPerson 0 = .ok (.iload_n 0, 1) := by decide +kernel
theorem dX1_isPerson_1 : decode cX1_isPerson 1 = .ok (.iconst 0, 1) := by decide +kernel
theorem dX1_isPerson_2 : decode cX1_isPerson 2 = .ok (.bipush 7, 2) := by decide +kernel
theorem dX1_isPerson_4 : decode cX1_isPerson 4 = .ok (.invokestatic 56, 3) := by decide +kernel
theorem dX1_isPerson_7 : decode cX1_isPerson 7 = .ok (.ireturn, 1) := by decide +kernel
theorem dX1_thing_0 : decode cX1_thing 0 = .ok (.iload_n 1, 1) := by decide +kernel
theorem dX1_thing_1 : decode cX1_thing 1 = .ok (.iconst 0, 1) := by decide +kernel
theorem dX1_thing_2 : decode cX1_thing 2 = .ok (.iconst 3, 1) := by decide +kernel
theorem dX1_thing_3 : decode cX1_thing 3 = .ok (.invokestatic 56, 3) := by decide +kernel
theorem dX1_thing_6 : decode cX1_thing 6 = .ok (.ifCond .eq 12, 3) := by decide +kernel
theorem dX1_thing_9 : decode cX1_thing 9 = .ok (.aload_n 0, 1) := by decide +kernel
theorem dX1_thing_10 : decode cX1_thing 10 = .ok (.getfield 53, 3) := by decide +kernel
theorem dX1_thing_13 : decode cX1_thing 13 = .ok (.bipush 12, 2) := by decide +kernel
theorem dX1_thing_15 : decode cX1_thing 15 = .ok (.if_icmp .ne 5, 3) := by decide +kernel
theorem dX1_thing_18 : decode cX1_thing 18 = .ok (.iconst (-1), 1) := by decide +kernel
theorem dX1_thing_19 : decode cX1_thing 19 = .ok (.ireturn, 1) := by decide +kernel
theorem dX1_thing_20 : decode cX1_thing 20 = .ok (.aload_n 0, 1) := by decide +kernel
theorem dX1_thing_21 : decode cX1_thing 21 = .ok (.getfield 22, 3) := by decide +kernel
theorem dX1_thing_24 : decode cX1_thing 24 = .ok (.aload_n 0, 1) := by decide +kernel
theorem dX1_thing_25 : decode cX1_thing 25 = .ok (.getfield 53, 3) := by decide +kernel
theorem dX1_thing_28 : decode cX1_thing 28 = .ok (.iload_n 1, 1) := by decide +kernel
theorem dX1_thing_29 : decode cX1_thing 29 = .ok (.iastore, 1) := by decide +kernel
theorem dX1_thing_30 : decode cX1_thing 30 = .ok (.aload_n 0, 1) := by decide +kernel
theorem dX1_thing_31 : decode cX1_thing 31 = .ok (.getfield 26, 3) := by decide +kernel
theorem dX1_thing_34 : decode cX1_thing 34 = .ok (.aload_n 0, 1) := by decide +kernel
theorem dX1_thing_35 : decode cX1_thing 35 = .ok (.getfield 53, 3) := by decide +kernel
theorem dX1_thing_38 : decode cX1_thing 38 = .ok (.aload_n 0, 1) := by decide +kernel
theorem dX1_thing_39 : decode cX1_thing 39 = .ok (.getfield 60, 3) := by decide +kernel
theorem dX1_thing_42 : decode cX1_thing 42 = .ok (.iastore, 1) := by decide +kernel
theorem dX1_thing_43 : decode cX1_thing 43 = .ok (.aload_n 0, 1) := by decide +kernel
theorem dX1_thing_44 : decode cX1_thing 44 = .ok (.dup, 1) := by decide +kernel
theorem dX1_thing_45 : decode cX1_thing 45 = .ok (.getfield 63, 3) := by decide +kernel
theorem dX1_thing_48 : decode cX1_thing 48 = .ok (.iconst 1, 1) := by decide +kernel
theorem dX1_thing_49 : decode cX1_thing 49 = .ok (.aload_n 0, 1) := by decide +kernel
theorem dX1_thing_50 : decode cX1_thing 50 = .ok (.getfield 53, 3) := by decide +kernel
theorem dX1_thing_53 : decode cX1_thing 53 = .ok (.ishl, 1) := by decide +kernel
theorem dX1_thing_54 : decode cX1_thing 54 = .ok (.ior, 1) := by decide +kernel
theorem dX1_thing_55 : decode cX1_thing 55 = .ok (.putfield 63, 3) := by decide +kernel
theorem dX1_thing_58 : decode cX1_thing 58 = .ok (.aload_n 0, 1) := by decide +kernel
theorem dX1_thing_59 : decode cX1_thing 59 = .ok (.dup, 1) := by decide +kernel
theorem dX1_thing_60 : decode cX1_thing 60 = .ok (.getfield 53, 3) := by decide +kernel
theorem dX1_thing_63 : decode cX1_thing 63 = .ok (.iconst 1, 1) := by decide +kernel
theorem dX1_thing_64 : decode cX1_thing 64 = .ok (.iadd, 1) := by decide +kernel
theorem dX1_thing_65 : decode cX1_thing 65 = .ok (.putfield 53, 3) := by decide +kernel
theorem dX1_thing_68 : decode cX1_thing 68 = .ok (.aload_n 0, 1) := by decide +kernel
theorem dX1_thing_69 : decode cX1_thing 69 = .ok (.getfield 53, 3) := by decide +kernel
theorem dX1_thing_72 : decode cX1_thing 72 = .ok (.iconst 1, 1) := by decide +kernel
theorem dX1_thing_73 : decode cX1_thing 73 = .ok (.isub, 1) := by decide +kernel
theorem dX1_thing_74 : decode cX1_thing 74 = .ok (.ireturn, 1) := by decide +kernel
theorem dX1_stock_0 : decode cX1_stock 0 = .ok (.aload_n 0, 1) := by decide +kernel
theorem dX1_stock_1 : decode cX1_stock 1 = .ok (.iload_n 1, 1) := by decide +kernel
theorem dX1_stock_2 : decode cX1_stock 2 = .ok (.invokevirtual 66, 3) := by decide +kernel
theorem dX1_stock_5 : decode cX1_stock 5 = .ok (.ifCond .eq 24, 3) := by decide +kernel
theorem dX1_stock_8 : decode cX1_stock 8 = .ok (.aload_n 0, 1) := by decide +kernel
theorem dX1_stock_9 : decode cX1_stock 9 = .ok (.getfield 63, 3) := by decide +kernel
theorem dX1_stock_12 : decode cX1_stock 12 = .ok (.iload_n 1, 1) := by decide +kernel
theorem dX1_stock_13 : decode cX1_stock 13 = .ok (.ishr, 1) := by decide +kernel
theorem dX1_stock_14 : decode cX1_stock 14 = .ok (.iconst 1, 1) := by decide +kernel
theorem dX1_stock_15 : decode cX1_stock 15 = .ok (.iand, 1) := by decide +kernel
theorem dX1_stock_16 : decode cX1_stock 16 = .ok (.iconst 1, 1) := by decide +kernel
theorem dX1_stock_17 : decode cX1_stock 17 = .ok (.if_icmp .ne 7, 3) := by decide +kernel
theorem dX1_stock_20 : decode cX1_stock 20 = .ok (.iconst 1, 1) := by decide +kernel
theorem dX1_stock_21 : decode cX1_stock 21 = .ok (.goto 4, 3) := by decide +kernel
theorem dX1_stock_24 : decode cX1_stock 24 = .ok (.iconst 0, 1) := by decide +kernel
theorem dX1_stock_25 : decode cX1_stock 25 = .ok (.iload_n 2, 1) := by decide +kernel
theorem dX1_stock_26 : decode cX1_stock 26 = .ok (.if_icmp .ne 5, 3) := by decide +kernel
theorem dX1_stock_29 : decode cX1_stock 29 = .ok (.iconst 0, 1) := by decide +kernel
theorem dX1_stock_30 : decode cX1_stock 30 = .ok (.ireturn, 1) := by decide +kernel
theorem dX1_stock_31 : decode cX1_stock 31 = .ok (.aload_n 0, 1) := by decide +kernel
theorem dX1_stock_32 : decode cX1_stock 32 = .ok (.dup, 1) := by decide +kernel
theorem dX1_stock_33 : decode cX1_stock 33 = .ok (.getfield 63, 3) := by decide +kernel
theorem dX1_stock_36 : decode cX1_stock 36 = .ok (.iconst 1, 1) := by decide +kernel
theorem dX1_stock_37 : decode cX1_stock 37 = .ok (.iload_n 1, 1) := by decide +kernel
theorem dX1_stock_38 : decode cX1_stock 38 = .ok (.ishl, 1) := by decide +kernel
theorem dX1_stock_39 : decode cX1_stock 39 = .ok (.ixor, 1) := by decide +kernel
theorem dX1_stock_40 : decode cX1_stock 40 = .ok (.putfield 63, 3) := by decide +kernel
theorem dX1_stock_43 : decode cX1_stock 43 = .ok (.iconst 1, 1) := by decide +kernel
theorem dX1_stock_44 : decode cX1_stock 44 = .ok (.ireturn, 1) := by decide +kernel
theorem dX1_set_0 : decode cX1_set 0 = .ok (.iload_n 1, 1) := by decide +kernel
theorem dX1_set_1 : decode cX1_set 1 = .ok (.iconst 0, 1) := by decide +kernel
theorem dX1_set_2 : decode cX1_set 2 = .ok (.iconst 3, 1) := by decide +kernel
theorem dX1_set_3 : decode cX1_set 3 = .ok (.invokestatic 56, 3) := by decide +kernel
theorem dX1_set_6 : decode cX1_set 6 = .ok (.ifCond .eq 30, 3) := by decide +kernel
theorem dX1_set_9 : decode cX1_set 9 = .ok (.iload_n 2, 1) := by decide +kernel
theorem dX1_set_10 : decode cX1_set 10 = .ok (.iconst 1, 1) := by decide +kernel
theorem dX1_set_11 : decode cX1_set 11 = .ok (.iload_n 1, 1) := by decide +kernel
theorem dX1_set_12 : decode cX1_set 12 = .ok (.ifCond .ne 7, 3) := by decide +kernel
theorem dX1_set_15 : decode cX1_set 15 = .ok (.iconst 4, 1) := by decide +kernel
theorem dX1_set_16 : decode cX1_set 16 = .ok (.goto 14, 3) := by decide +kernel
theorem dX1_set_19 : decode cX1_set 19 = .ok (.iload_n 1, 1) := by decide +kernel
theorem dX1_set_20 : decode cX1_set 20 = .ok (.iconst 1, 1) := by decide +kernel
theorem dX1_set_21 : decode cX1_set 21 = .ok (.if_icmp .ne 7, 3) := by decide +kernel
theorem dX1_set_24 : decode cX1_set 24 = .ok (.iconst 5, 1) := by decide +kernel
theorem dX1_set_25 : decode cX1_set 25 = .ok (.goto 5, 3) := by decide +kernel
theorem dX1_set_28 : decode cX1_set 28 = .ok (.bipush 9, 2) := by decide +kernel
theorem dX1_set_30 : decode cX1_set 30 = .ok (.invokestatic 56, 3) := by decide +kernel
theorem dX1_set_33 : decode cX1_set 33 = .ok (.ifCond .ne 5, 3) := by decide +kernel
theorem dX1_set_36 : decode cX1_set 36 = .ok (.iconst 0, 1) := by decide +kernel
theorem dX1_set_37 : decode cX1_set 37 = .ok (.ireturn, 1) := by decide +kernel
theorem dX1_set_38 : decode cX1_set 38 = .ok (.iload_n 1, 1) := by decide +kernel
theorem dX1_set_39 : decode cX1_set 39 = .ok (.ifCond .ne 11, 3) := by decide +kernel
theorem dX1_set_42 : decode cX1_set 42 = .ok (.aload_n 0, 1) := by decide +kernel
theorem dX1_set_43 : decode cX1_set 43 = .ok (.iload_n 2, 1) := by decide +kernel
theorem dX1_set_44 : decode cX1_set 44 = .ok (.putfield 7, 3) := by decide +kernel
theorem dX1_set_47 : decode cX1_set 47 = .ok (.goto 34, 3) := by decide +kernel
theorem dX1_set_50 : decode cX1_set 50 = .ok (.iload_n 1, 1) := by decide +kernel
theorem dX1_set_51 : decode cX1_set 51 = .ok (.iconst 1, 1) := by decide +kernel
theorem dX1_set_52 : decode cX1_set 52 = .ok (.if_icmp .ne 11, 3) := by decide +kernel
theorem dX1_set_55 : decode cX1_set 55 = .ok (.aload_n 0, 1) := by decide +kernel
theorem dX1_set_56 : decode cX1_set 56 = .ok (.iload_n 2, 1) := by decide +kernel
theorem dX1_set_57 : decode cX1_set 57 = .ok (.putfield 13, 3) := by decide +kernel
theorem dX1_set_60 : decode cX1_set 60 = .ok (.goto 21, 3) := by decide +kernel
theorem dX1_set_63 : decode cX1_set 63 = .ok (.iload_n 1, 1) := by decide +kernel
theorem dX1_set_64 : decode cX1_set 64 = .ok (.iconst 2, 1) := by decide +kernel
theorem dX1_set_65 : decode cX1_set 65 = .ok (.if_icmp .ne 11, 3) := by decide +kernel
theorem dX1_set_68 : decode cX1_set 68 = .ok (.aload_n 0, 1) := by decide +kernel
theorem dX1_set_69 : decode cX1_set 69 = .ok (.iload_n 2, 1) := by decide +kernel
theorem dX1_set_70 : decode cX1_set 70 = .ok (.putfield 16, 3) := by decide +kernel
theorem dX1_set_73 : decode cX1_set 73 = .ok (.goto 8, 3) := by decide +kernel
theorem dX1_set_76 : decode cX1_set 76 = .ok (.aload_n 0, 1) := by decide +kernel
theorem dX1_set_77 : decode cX1_set 77 = .ok (.iload_n 2, 1) := by decide +kernel
theorem dX1_set_78 : decode cX1_set 78 = .ok (.putfield 19, 3) := by decide +kernel
theorem dX1_set_81 : decode cX1_set 81 = .ok (.iconst 1, 1) := by decide +kernel
theorem dX1_set_82 : decode cX1_set 82 = .ok (.ireturn, 1) := by decide +kernel
theorem dX1_apart_0 : decode cX1_apart 0 = .ok (.aload_n 0, 1) := by decide +kernel
theorem dX1_apart_1 : decode cX1_apart 1 = .ok (.iload_n 1, 1) := by decide +kernel
theorem dX1_apart_2 : decode cX1_apart 2 = .ok (.invokevirtual 66, 3) := by decide +kernel
theorem dX1_apart_5 : decode cX1_apart 5 = .ok (.ifCond .eq 39, 3) := by decide +kernel
theorem dX1_apart_8 : decode cX1_apart 8 = .ok (.aload_n 0, 1) := by decide +kernel
theorem dX1_apart_9 : decode cX1_apart 9 = .ok (.iload_n 2, 1) := by decide +kernel
theorem dX1_apart_10 : decode cX1_apart 10 = .ok (.invokevirtual 66, 3) := by decide +kernel
theorem dX1_apart_13 : decode cX1_apart 13 = .ok (.ifCond .eq 31, 3) := by decide +kernel
theorem dX1_apart_16 : decode cX1_apart 16 = .ok (.iload_n 1, 1) := by decide +kernel
theorem dX1_apart_17 : decode cX1_apart 17 = .ok (.iload_n 2, 1) := by decide +kernel
theorem dX1_apart_18 : decode cX1_apart 18 = .ok (.if_icmp .eq 26, 3) := by decide +kernel
theorem dX1_apart_21 : decode cX1_apart 21 = .ok (.aload_n 0, 1) := by decide +kernel
theorem dX1_apart_22 : decode cX1_apart 22 = .ok (.getfield 29, 3) := by decide +kernel
theorem dX1_apart_25 : decode cX1_apart 25 = .ok (.iload_n 1, 1) := by decide +kernel
theorem dX1_apart_26 : decode cX1_apart 26 = .ok (.iaload, 1) := by decide +kernel
theorem dX1_apart_27 : decode cX1_apart 27 = .ok (.iload_n 2, 1) := by decide +kernel
theorem dX1_apart_28 : decode cX1_apart 28 = .ok (.ishr, 1) := by decide +kernel
theorem dX1_apart_29 : decode cX1_apart 29 = .ok (.iconst 1, 1) := by decide +kernel
theorem dX1_apart_30 : decode cX1_apart 30 = .ok (.iand, 1) := by decide +kernel
theorem dX1_apart_31 : decode cX1_apart 31 = .ok (.iconst 1, 1) := by decide +kernel
theorem dX1_apart_32 : decode cX1_apart 32 = .ok (.if_icmp .ne 7, 3) := by decide +kernel
theorem dX1_apart_35 : decode cX1_apart 35 = .ok (.iconst 1, 1) := by decide +kernel
theorem dX1_apart_36 : decode cX1_apart 36 = .ok (.goto 4, 3) := by decide +kernel
theorem dX1_apart_39 : decode cX1_apart 39 = .ok (.iconst 0, 1) := by decide +kernel
theorem dX1_apart_40 : decode cX1_apart 40 = .ok (.iload_n 3, 1) := by decide +kernel
theorem dX1_apart_41 : decode cX1_apart 41 = .ok (.if_icmp .ne 5, 3) := by decide +kernel
theorem dX1_apart_44 : decode cX1_apart 44 = .ok (.iconst 0, 1) := by decide +kernel
theorem dX1_apart_45 : decode cX1_apart 45 = .ok (.ireturn, 1) := by decide +kernel
theorem dX1_apart_46 : decode cX1_apart 46 = .ok (.aload_n 0, 1) := by decide +kernel
theorem dX1_apart_47 : decode cX1_apart 47 = .ok (.getfield 29, 3) := by decide +kernel
theorem dX1_apart_50 : decode cX1_apart 50 = .ok (.iload_n 1, 1) := by decide +kernel
theorem dX1_apart_51 : decode cX1_apart 51 = .ok (.dup2, 1) := by decide +kernel
theorem dX1_apart_52 : decode cX1_apart 52 = .ok (.iaload, 1) := by decide +kernel
theorem dX1_apart_53 : decode cX1_apart 53 = .ok (.iconst 1, 1) := by decide +kernel
theorem dX1_apart_54 : decode cX1_apart 54 = .ok (.iload_n 2, 1) := by decide +kernel
theorem dX1_apart_55 : decode cX1_apart 55 = .ok (.ishl, 1) := by decide +kernel
theorem dX1_apart_56 : decode cX1_apart 56 = .ok (.ixor, 1) := by decide +kernel
theorem dX1_apart_57 : decode cX1_apart 57 = .ok (.iastore, 1) := by decide +kernel
theorem dX1_apart_58 : decode cX1_apart 58 = .ok (.aload_n 0, 1) := by decide +kernel
theorem dX1_apart_59 : decode cX1_apart 59 = .ok (.getfield 29, 3) := by decide +kernel
theorem dX1_apart_62 : decode cX1_apart 62 = .ok (.iload_n 2, 1) := by decide +kernel
theorem dX1_apart_63 : decode cX1_apart 63 = .ok (.dup2, 1) := by decide +kernel
theorem dX1_apart_64 : decode cX1_apart 64 = .ok (.iaload, 1) := by decide +kernel
theorem dX1_apart_65 : decode cX1_apart 65 = .ok (.iconst 1, 1) := by decide +kernel
theorem dX1_apart_66 : decode cX1_apart 66 = .ok (.iload_n 1, 1) := by decide +kernel
theorem dX1_apart_67 : decode cX1_apart 67 = .ok (.ishl, 1) := by decide +kernel
theorem dX1_apart_68 : decode cX1_apart 68 = .ok (.ixor, 1) := by decide +kernel
theorem dX1_apart_69 : decode cX1_apart 69 = .ok (.iastore, 1) := by decide +kernel
theorem dX1_apart_70 : decode cX1_apart 70 = .ok (.iconst 1, 1) := by decide +kernel
theorem dX1_apart_71 : decode cX1_apart 71 = .ok (.ireturn, 1) := by decide +kernel
theorem dX1_basket_0 : decode cX1_basket 0 = .ok (.iload_n 1, 1) := by decide +kernel
theorem dX1_basket_1 : decode cX1_basket 1 = .ok (.invokestatic 70, 3) := by decide +kernel
theorem dX1_basket_4 : decode cX1_basket 4 = .ok (.ifCond .eq 28, 3) := by decide +kernel
theorem dX1_basket_7 : decode cX1_basket 7 = .ok (.iload_n 2, 1) := by decide +kernel
theorem dX1_basket_8 : decode cX1_basket 8 = .ok (.iconst 1, 1) := by decide +kernel
theorem dX1_basket_9 : decode cX1_basket 9 = .ok (.iconst 1, 1) := by decide +kernel
theorem dX1_basket_10 : decode cX1_basket 10 = .ok (.aload_n 0, 1) := by decide +kernel
theorem dX1_basket_11 : decode cX1_basket 11 = .ok (.getfield 53, 3) := by decide +kernel
theorem dX1_basket_14 : decode cX1_basket 14 = .ok (.ishl, 1) := by decide +kernel
theorem dX1_basket_15 : decode cX1_basket 15 = .ok (.iconst 1, 1) := by decide +kernel
theorem dX1_basket_16 : decode cX1_basket 16 = .ok (.isub, 1) := by decide +kernel
theorem dX1_basket_17 : decode cX1_basket 17 = .ok (.invokestatic 56, 3) := by decide +kernel
theorem dX1_basket_20 : decode cX1_basket 20 = .ok (.ifCond .eq 12, 3) := by decide +kernel
theorem dX1_basket_23 : decode cX1_basket 23 = .ok (.aload_n 0, 1) := by decide +kernel
theorem dX1_basket_24 : decode cX1_basket 24 = .ok (.getfield 73, 3) := by decide +kernel
theorem dX1_basket_27 : decode cX1_basket 27 = .ok (.bipush 60, 2) := by decide +kernel
theorem dX1_basket_29 : decode cX1_basket 29 = .ok (.if_icmp .ne 5, 3) := by decide +kernel
theorem dX1_basket_32 : decode cX1_basket 32 = .ok (.iconst (-1), 1) := by decide +kernel
theorem dX1_basket_33 : decode cX1_basket 33 = .ok (.ireturn, 1) := by decide +kernel
theorem dX1_basket_34 : decode cX1_basket 34 = .ok (.aload_n 0, 1) := by decide +kernel
theorem dX1_basket_35 : decode cX1_basket 35 = .ok (.getfield 32, 3) := by decide +kernel
theorem dX1_basket_38 : decode cX1_basket 38 = .ok (.aload_n 0, 1) := by decide +kernel
theorem dX1_basket_39 : decode cX1_basket 39 = .ok (.getfield 73, 3) := by decide +kernel
theorem dX1_basket_42 : decode cX1_basket 42 = .ok (.iload_n 1, 1) := by decide +kernel
theorem dX1_basket_43 : decode cX1_basket 43 = .ok (.iastore, 1) := by decide +kernel
theorem dX1_basket_44 : decode cX1_basket 44 = .ok (.aload_n 0, 1) := by decide +kernel
theorem dX1_basket_45 : decode cX1_basket 45 = .ok (.getfield 35, 3) := by decide +kernel
theorem dX1_basket_48 : decode cX1_basket 48 = .ok (.aload_n 0, 1) := by decide +kernel
theorem dX1_basket_49 : decode cX1_basket 49 = .ok (.getfield 73, 3) := by decide +kernel
theorem dX1_basket_52 : decode cX1_basket 52 = .ok (.aload_n 0, 1) := by decide +kernel
theorem dX1_basket_53 : decode cX1_basket 53 = .ok (.getfield 60, 3) := by decide +kernel
theorem dX1_basket_56 : decode cX1_basket 56 = .ok (.iastore, 1) := by decide +kernel
theorem dX1_basket_57 : decode cX1_basket 57 = .ok (.aload_n 0, 1) := by decide +kernel
theorem dX1_basket_58 : decode cX1_basket 58 = .ok (.getfield 38, 3) := by decide +kernel
theorem dX1_basket_61 : decode cX1_basket 61 = .ok (.aload_n 0, 1) := by decide +kernel
theorem dX1_basket_62 : decode cX1_basket 62 = .ok (.getfield 73, 3) := by decide +kernel
theorem dX1_basket_65 : decode cX1_basket 65 = .ok (.iload_n 2, 1) := by decide +kernel
theorem dX1_basket_66 : decode cX1_basket 66 = .ok (.iastore, 1) := by decide +kernel
theorem dX1_basket_67 : decode cX1_basket 67 = .ok (.aload_n 0, 1) := by decide +kernel
theorem dX1_basket_68 : decode cX1_basket 68 = .ok (.dup, 1) := by decide +kernel
theorem dX1_basket_69 : decode cX1_basket 69 = .ok (.getfield 73, 3) := by decide +kernel
theorem dX1_basket_72 : decode cX1_basket 72 = .ok (.iconst 1, 1) := by decide +kernel
theorem dX1_basket_73 : decode cX1_basket 73 = .ok (.iadd, 1) := by decide +kernel
theorem dX1_basket_74 : decode cX1_basket 74 = .ok (.putfield 73, 3) := by decide +kernel
theorem dX1_basket_77 : decode cX1_basket 77 = .ok (.iconst 0, 1) := by decide +kernel
theorem dX1_basket_78 : decode cX1_basket 78 = .ok (.istore_n 3, 1) := by decide +kernel
theorem dX1_basket_79 : decode cX1_basket 79 = .ok (.iload_n 3, 1) := by decide +kernel
theorem dX1_basket_80 : decode cX1_basket 80 = .ok (.aload_n 0, 1) := by decide +kernel
theorem dX1_basket_81 : decode cX1_basket 81 = .ok (.getfield 53, 3) := by decide +kernel
theorem dX1_basket_84 : decode cX1_basket 84 = .ok (.if_icmp .ge 44, 3) := by decide +kernel
theorem dX1_basket_87 : decode cX1_basket 87 = .ok (.iload_n 2, 1) := by decide +kernel
theorem dX1_basket_88 : decode cX1_basket 88 = .ok (.iload_n 3, 1) := by decide +kernel
theorem dX1_basket_89 : decode cX1_basket 89 = .ok (.ishr, 1) := by decide +kernel
theorem dX1_basket_90 : decode cX1_basket 90 = .ok (.iconst 1, 1) := by decide +kernel
theorem dX1_basket_91 : decode cX1_basket 91 = .ok (.iand, 1) := by decide +kernel
theorem dX1_basket_92 : decode cX1_basket 92 = .ok (.ifCond .ne 6, 3) := by decide +kernel
theorem dX1_basket_95 : decode cX1_basket 95 = .ok (.goto 27, 3) := by decide +kernel
theorem dX1_basket_98 : decode cX1_basket 98 = .ok (.aload_n 0, 1) := by decide +kernel
theorem dX1_basket_99 : decode cX1_basket 99 = .ok (.getfield 44, 3) := by decide +kernel
theorem dX1_basket_102 : decode cX1_basket 102 = .ok (.bipush 12, 2) := by decide +kernel
theorem dX1_basket_104 : decode cX1_basket 104 = .ok (.iload_n 1, 1) := by decide +kernel
theorem dX1_basket_105 : decode cX1_basket 105 = .ok (.imul, 1) := by decide +kernel
theorem dX1_basket_106 : decode cX1_basket 106 = .ok (.iload_n 3, 1) := by decide +kernel
theorem dX1_basket_107 : decode cX1_basket 107 = .ok (.iadd, 1) := by decide +kernel
theorem dX1_basket_108 : decode cX1_basket 108 = .ok (.iconst 0, 1) := by decide +kernel
theorem dX1_basket_109 : decode cX1_basket 109 = .ok (.iastore, 1) := by decide +kernel
theorem dX1_basket_110 : decode cX1_basket 110 = .ok (.aload_n 0, 1) := by decide +kernel
theorem dX1_basket_111 : decode cX1_basket 111 = .ok (.getfield 47, 3) := by decide +kernel
theorem dX1_basket_114 : decode cX1_basket 114 = .ok (.bipush 12, 2) := by decide +kernel
theorem dX1_basket_116 : decode cX1_basket 116 = .ok (.iload_n 1, 1) := by decide +kernel
theorem dX1_basket_117 : decode cX1_basket 117 = .ok (.imul, 1) := by decide +kernel
theorem dX1_basket_118 : decode cX1_basket 118 = .ok (.iload_n 3, 1) := by decide +kernel
theorem dX1_basket_119 : decode cX1_basket 119 = .ok (.iadd, 1) := by decide +kernel
theorem dX1_basket_120 : decode cX1_basket 120 = .ok (.iconst 0, 1) := by decide +kernel
theorem dX1_basket_121 : decode cX1_basket 121 = .ok (.iastore, 1) := by decide +kernel
theorem dX1_basket_122 : decode cX1_basket 122 = .ok (.iinc 3 1, 3) := by decide +kernel
theorem dX1_basket_125 : decode cX1_basket 125 = .ok (.goto (-46), 3) := by decide +kernel
theorem dX1_basket_128 : decode cX1_basket 128 = .ok (.aload_n 0, 1) := by decide +kernel
theorem dX1_basket_129 : decode cX1_basket 129 = .ok (.getfield 73, 3) := by decide +kernel
theorem dX1_basket_132 : decode cX1_basket 132 = .ok (.iconst 1, 1) := by decide +kernel
theorem dX1_basket_133 : decode cX1_basket 133 = .ok (.isub, 1) := by decide +kernel
theorem dX1_basket_134 : decode cX1_basket 134 = .ok (.ireturn, 1) := by decide +kernel
theorem dX1_goes_0 : decode cX1_goes 0 = .ok (.aload_n 0, 1) := by decide +kernel
theorem dX1_goes_1 : decode cX1_goes 1 = .ok (.dup, 1) := by decide +kernel
theorem dX1_goes_2 : decode cX1_goes 2 = .ok (.getfield 73, 3) := by decide +kernel
theorem dX1_goes_5 : decode cX1_goes 5 = .ok (.iconst 1, 1) := by decide +kernel
theorem dX1_goes_6 : decode cX1_goes 6 = .ok (.isub, 1) := by decide +kernel
theorem dX1_goes_7 : decode cX1_goes 7 = .ok (.putfield 73, 3) := by decide +kernel
theorem dX1_goes_10 : decode cX1_goes 10 = .ok (.iload_n 1, 1) := by decide +kernel
theorem dX1_goes_11 : decode cX1_goes 11 = .ok (.istore_n 2, 1) := by decide +kernel
theorem dX1_goes_12 : decode cX1_goes 12 = .ok (.iload_n 2, 1) := by decide +kernel
theorem dX1_goes_13 : decode cX1_goes 13 = .ok (.aload_n 0, 1) := by decide +kernel
theorem dX1_goes_14 : decode cX1_goes 14 = .ok (.getfield 73, 3) := by decide +kernel
theorem dX1_goes_17 : decode cX1_goes 17 = .ok (.if_icmp .ge 51, 3) := by decide +kernel
theorem dX1_goes_20 : decode cX1_goes 20 = .ok (.aload_n 0, 1) := by decide +kernel
theorem dX1_goes_21 : decode cX1_goes 21 = .ok (.getfield 32, 3) := by decide +kernel
theorem dX1_goes_24 : decode cX1_goes 24 = .ok (.iload_n 2, 1) := by decide +kernel
theorem dX1_goes_25 : decode cX1_goes 25 = .ok (.aload_n 0, 1) := by decide +kernel
theorem dX1_goes_26 : decode cX1_goes 26 = .ok (.getfield 32, 3) := by decide +kernel
theorem dX1_goes_29 : decode cX1_goes 29 = .ok (.iload_n 2, 1) := by decide +kernel
theorem dX1_goes_30 : decode cX1_goes 30 = .ok (.iconst 1, 1) := by decide +kernel
theorem dX1_goes_31 : decode cX1_goes 31 = .ok (.iadd, 1) := by decide +kernel
theorem dX1_goes_32 : decode cX1_goes 32 = .ok (.iaload, 1) := by decide +kernel
theorem dX1_goes_33 : decode cX1_goes 33 = .ok (.iastore, 1) := by decide +kernel
theorem dX1_goes_34 : decode cX1_goes 34 = .ok (.aload_n 0, 1) := by decide +kernel
theorem dX1_goes_35 : decode cX1_goes 35 = .ok (.getfield 35, 3) := by decide +kernel
theorem dX1_goes_38 : decode cX1_goes 38 = .ok (.iload_n 2, 1) := by decide +kernel
theorem dX1_goes_39 : decode cX1_goes 39 = .ok (.aload_n 0, 1) := by decide +kernel
theorem dX1_goes_40 : decode cX1_goes 40 = .ok (.getfield 35, 3) := by decide +kernel
theorem dX1_goes_43 : decode cX1_goes 43 = .ok (.iload_n 2, 1) := by decide +kernel
theorem dX1_goes_44 : decode cX1_goes 44 = .ok (.iconst 1, 1) := by decide +kernel
theorem dX1_goes_45 : decode cX1_goes 45 = .ok (.iadd, 1) := by decide +kernel
theorem dX1_goes_46 : decode cX1_goes 46 = .ok (.iaload, 1) := by decide +kernel
theorem dX1_goes_47 : decode cX1_goes 47 = .ok (.iastore, 1) := by decide +kernel
theorem dX1_goes_48 : decode cX1_goes 48 = .ok (.aload_n 0, 1) := by decide +kernel
theorem dX1_goes_49 : decode cX1_goes 49 = .ok (.getfield 38, 3) := by decide +kernel
theorem dX1_goes_52 : decode cX1_goes 52 = .ok (.iload_n 2, 1) := by decide +kernel
theorem dX1_goes_53 : decode cX1_goes 53 = .ok (.aload_n 0, 1) := by decide +kernel
theorem dX1_goes_54 : decode cX1_goes 54 = .ok (.getfield 38, 3) := by decide +kernel
theorem dX1_goes_57 : decode cX1_goes 57 = .ok (.iload_n 2, 1) := by decide +kernel
theorem dX1_goes_58 : decode cX1_goes 58 = .ok (.iconst 1, 1) := by decide +kernel
theorem dX1_goes_59 : decode cX1_goes 59 = .ok (.iadd, 1) := by decide +kernel
theorem dX1_goes_60 : decode cX1_goes 60 = .ok (.iaload, 1) := by decide +kernel
theorem dX1_goes_61 : decode cX1_goes 61 = .ok (.iastore, 1) := by decide +kernel
theorem dX1_goes_62 : decode cX1_goes 62 = .ok (.iinc 2 1, 3) := by decide +kernel
theorem dX1_goes_65 : decode cX1_goes 65 = .ok (.goto (-53), 3) := by decide +kernel
theorem dX1_goes_68 : decode cX1_goes 68 = .ok (.return_, 1) := by decide +kernel
theorem dX1_drop_0 : decode cX1_drop 0 = .ok (.iload_n 1, 1) := by decide +kernel
theorem dX1_drop_1 : decode cX1_drop 1 = .ok (.iconst 0, 1) := by decide +kernel
theorem dX1_drop_2 : decode cX1_drop 2 = .ok (.aload_n 0, 1) := by decide +kernel
theorem dX1_drop_3 : decode cX1_drop 3 = .ok (.getfield 73, 3) := by decide +kernel
theorem dX1_drop_6 : decode cX1_drop 6 = .ok (.iconst 1, 1) := by decide +kernel
theorem dX1_drop_7 : decode cX1_drop 7 = .ok (.isub, 1) := by decide +kernel
theorem dX1_drop_8 : decode cX1_drop 8 = .ok (.invokestatic 56, 3) := by decide +kernel
theorem dX1_drop_11 : decode cX1_drop 11 = .ok (.ifCond .ne 5, 3) := by decide +kernel
theorem dX1_drop_14 : decode cX1_drop 14 = .ok (.iconst 0, 1) := by decide +kernel
theorem dX1_drop_15 : decode cX1_drop 15 = .ok (.ireturn, 1) := by decide +kernel
theorem dX1_drop_16 : decode cX1_drop 16 = .ok (.aload_n 0, 1) := by decide +kernel
theorem dX1_drop_17 : decode cX1_drop 17 = .ok (.iload_n 1, 1) := by decide +kernel
theorem dX1_drop_18 : decode cX1_drop 18 = .ok (.invokevirtual 76, 3) := by decide +kernel
theorem dX1_drop_21 : decode cX1_drop 21 = .ok (.iconst 1, 1) := by decide +kernel
theorem dX1_drop_22 : decode cX1_drop 22 = .ok (.ireturn, 1) := by decide +kernel
theorem dX1_forget_0 : decode cX1_forget 0 = .ok (.iload_n 1, 1) := by decide +kernel
theorem dX1_forget_1 : decode cX1_forget 1 = .ok (.invokestatic 70, 3) := by decide +kernel
theorem dX1_forget_4 : decode cX1_forget 4 = .ok (.ifCond .ne 5, 3) := by decide +kernel
theorem dX1_forget_7 : decode cX1_forget 7 = .ok (.iconst (-1), 1) := by decide +kernel
theorem dX1_forget_8 : decode cX1_forget 8 = .ok (.ireturn, 1) := by decide +kernel
theorem dX1_forget_9 : decode cX1_forget 9 = .ok (.iconst 0, 1) := by decide +kernel
theorem dX1_forget_10 : decode cX1_forget 10 = .ok (.istore_n 2, 1) := by decide +kernel
theorem dX1_forget_11 : decode cX1_forget 11 = .ok (.aload_n 0, 1) := by decide +kernel
theorem dX1_forget_12 : decode cX1_forget 12 = .ok (.getfield 73, 3) := by decide +kernel
theorem dX1_forget_15 : decode cX1_forget 15 = .ok (.iconst 1, 1) := by decide +kernel
theorem dX1_forget_16 : decode cX1_forget 16 = .ok (.isub, 1) := by decide +kernel
theorem dX1_forget_17 : decode cX1_forget 17 = .ok (.istore_n 3, 1) := by decide +kernel
theorem dX1_forget_18 : decode cX1_forget 18 = .ok (.iload_n 3, 1) := by decide +kernel
theorem dX1_forget_19 : decode cX1_forget 19 = .ok (.ifCond .lt 30, 3) := by decide +kernel
theorem dX1_forget_22 : decode cX1_forget 22 = .ok (.aload_n 0, 1) := by decide +kernel
theorem dX1_forget_23 : decode cX1_forget 23 = .ok (.getfield 32, 3) := by decide +kernel
theorem dX1_forget_26 : decode cX1_forget 26 = .ok (.iload_n 3, 1) := by decide +kernel
theorem dX1_forget_27 : decode cX1_forget 27 = .ok (.iaload, 1) := by decide +kernel
theorem dX1_forget_28 : decode cX1_forget 28 = .ok (.iload_n 1, 1) := by decide +kernel
theorem dX1_forget_29 : decode cX1_forget 29 = .ok (.if_icmp .eq 6, 3) := by decide +kernel
theorem dX1_forget_32 : decode cX1_forget 32 = .ok (.goto 11, 3) := by decide +kernel
theorem dX1_forget_35 : decode cX1_forget 35 = .ok (.aload_n 0, 1) := by decide +kernel
theorem dX1_forget_36 : decode cX1_forget 36 = .ok (.iload_n 3, 1) := by decide +kernel
theorem dX1_forget_37 : decode cX1_forget 37 = .ok (.invokevirtual 76, 3) := by decide +kernel
theorem dX1_forget_40 : decode cX1_forget 40 = .ok (.iinc 2 1, 3) := by decide +kernel
theorem dX1_forget_43 : decode cX1_forget 43 = .ok (.iinc 3 (-1), 3) := by decide +kernel
theorem dX1_forget_46 : decode cX1_forget 46 = .ok (.goto (-28), 3) := by decide +kernel
theorem dX1_forget_49 : decode cX1_forget 49 = .ok (.aload_n 0, 1) := by decide +kernel
theorem dX1_forget_50 : decode cX1_forget 50 = .ok (.getfield 41, 3) := by decide +kernel
theorem dX1_forget_53 : decode cX1_forget 53 = .ok (.iload_n 1, 1) := by decide +kernel
theorem dX1_forget_54 : decode cX1_forget 54 = .ok (.iconst 0, 1) := by decide +kernel
theorem dX1_forget_55 : decode cX1_forget 55 = .ok (.iastore, 1) := by decide +kernel
theorem dX1_forget_56 : decode cX1_forget 56 = .ok (.iconst 0, 1) := by decide +kernel
theorem dX1_forget_57 : decode cX1_forget 57 = .ok (.istore_n 3, 1) := by decide +kernel
theorem dX1_forget_58 : decode cX1_forget 58 = .ok (.iload_n 3, 1) := by decide +kernel
theorem dX1_forget_59 : decode cX1_forget 59 = .ok (.bipush 12, 2) := by decide +kernel
theorem dX1_forget_61 : decode cX1_forget 61 = .ok (.if_icmp .ge 33, 3) := by decide +kernel
theorem dX1_forget_64 : decode cX1_forget 64 = .ok (.aload_n 0, 1) := by decide +kernel
theorem dX1_forget_65 : decode cX1_forget 65 = .ok (.getfield 44, 3) := by decide +kernel
theorem dX1_forget_68 : decode cX1_forget 68 = .ok (.bipush 12, 2) := by decide +kernel
theorem dX1_forget_70 : decode cX1_forget 70 = .ok (.iload_n 1, 1) := by decide +kernel
theorem dX1_forget_71 : decode cX1_forget 71 = .ok (.imul, 1) := by decide +kernel
theorem dX1_forget_72 : decode cX1_forget 72 = .ok (.iload_n 3, 1) := by decide +kernel
theorem dX1_forget_73 : decode cX1_forget 73 = .ok (.iadd, 1) := by decide +kernel
theorem dX1_forget_74 : decode cX1_forget 74 = .ok (.iconst 0, 1) := by decide +kernel
theorem dX1_forget_75 : decode cX1_forget 75 = .ok (.iastore, 1) := by decide +kernel
theorem dX1_forget_76 : decode cX1_forget 76 = .ok (.aload_n 0, 1) := by decide +kernel
theorem dX1_forget_77 : decode cX1_forget 77 = .ok (.getfield 47, 3) := by decide +kernel
theorem dX1_forget_80 : decode cX1_forget 80 = .ok (.bipush 12, 2) := by decide +kernel
theorem dX1_forget_82 : decode cX1_forget 82 = .ok (.iload_n 1, 1) := by decide +kernel
theorem dX1_forget_83 : decode cX1_forget 83 = .ok (.imul, 1) := by decide +kernel
theorem dX1_forget_84 : decode cX1_forget 84 = .ok (.iload_n 3, 1) := by decide +kernel
theorem dX1_forget_85 : decode cX1_forget 85 = .ok (.iadd, 1) := by decide +kernel
theorem dX1_forget_86 : decode cX1_forget 86 = .ok (.iconst 0, 1) := by decide +kernel
theorem dX1_forget_87 : decode cX1_forget 87 = .ok (.iastore, 1) := by decide +kernel
theorem dX1_forget_88 : decode cX1_forget 88 = .ok (.iinc 3 1, 3) := by decide +kernel
theorem dX1_forget_91 : decode cX1_forget 91 = .ok (.goto (-33), 3) := by decide +kernel
theorem dX1_forget_94 : decode cX1_forget 94 = .ok (.iload_n 2, 1) := by decide +kernel
theorem dX1_forget_95 : decode cX1_forget 95 = .ok (.ireturn, 1) := by decide +kernel
theorem dX1_day_0 : decode cX1_day 0 = .ok (.aload_n 0, 1) := by decide +kernel
theorem dX1_day_1 : decode cX1_day 1 = .ok (.getfield 60, 3) := by decide +kernel
theorem dX1_day_4 : decode cX1_day 4 = .ok (.sipush 9999, 3) := by decide +kernel
theorem dX1_day_7 : decode cX1_day 7 = .ok (.if_icmp .ne 5, 3) := by decide +kernel
theorem dX1_day_10 : decode cX1_day 10 = .ok (.iconst (-1), 1) := by decide +kernel
theorem dX1_day_11 : decode cX1_day 11 = .ok (.ireturn, 1) := by decide +kernel
theorem dX1_day_12 : decode cX1_day 12 = .ok (.aload_n 0, 1) := by decide +kernel
theorem dX1_day_13 : decode cX1_day 13 = .ok (.dup, 1) := by decide +kernel
theorem dX1_day_14 : decode cX1_day 14 = .ok (.getfield 60, 3) := by decide +kernel
theorem dX1_day_17 : decode cX1_day 17 = .ok (.iconst 1, 1) := by decide +kernel
theorem dX1_day_18 : decode cX1_day 18 = .ok (.iadd, 1) := by decide +kernel
theorem dX1_day_19 : decode cX1_day 19 = .ok (.putfield 60, 3) := by decide +kernel
theorem dX1_day_22 : decode cX1_day 22 = .ok (.aload_n 0, 1) := by decide +kernel
theorem dX1_day_23 : decode cX1_day 23 = .ok (.getfield 73, 3) := by decide +kernel
theorem dX1_day_26 : decode cX1_day 26 = .ok (.iconst 1, 1) := by decide +kernel
theorem dX1_day_27 : decode cX1_day 27 = .ok (.isub, 1) := by decide +kernel
theorem dX1_day_28 : decode cX1_day 28 = .ok (.istore_n 1, 1) := by decide +kernel
theorem dX1_day_29 : decode cX1_day 29 = .ok (.iload_n 1, 1) := by decide +kernel
theorem dX1_day_30 : decode cX1_day 30 = .ok (.ifCond .lt 30, 3) := by decide +kernel
theorem dX1_day_33 : decode cX1_day 33 = .ok (.aload_n 0, 1) := by decide +kernel
theorem dX1_day_34 : decode cX1_day 34 = .ok (.getfield 60, 3) := by decide +kernel
theorem dX1_day_37 : decode cX1_day 37 = .ok (.aload_n 0, 1) := by decide +kernel
theorem dX1_day_38 : decode cX1_day 38 = .ok (.getfield 35, 3) := by decide +kernel
theorem dX1_day_41 : decode cX1_day 41 = .ok (.iload_n 1, 1) := by decide +kernel
theorem dX1_day_42 : decode cX1_day 42 = .ok (.iaload, 1) := by decide +kernel
theorem dX1_day_43 : decode cX1_day 43 = .ok (.isub, 1) := by decide +kernel
theorem dX1_day_44 : decode cX1_day 44 = .ok (.bipush 28, 2) := by decide +kernel
theorem dX1_day_46 : decode cX1_day 46 = .ok (.if_icmp .lt 8, 3) := by decide +kernel
theorem dX1_day_49 : decode cX1_day 49 = .ok (.aload_n 0, 1) := by decide +kernel
theorem dX1_day_50 : decode cX1_day 50 = .ok (.iload_n 1, 1) := by decide +kernel
theorem dX1_day_51 : decode cX1_day 51 = .ok (.invokevirtual 76, 3) := by decide +kernel
theorem dX1_day_54 : decode cX1_day 54 = .ok (.iinc 1 (-1), 3) := by decide +kernel
theorem dX1_day_57 : decode cX1_day 57 = .ok (.goto (-28), 3) := by decide +kernel
theorem dX1_day_60 : decode cX1_day 60 = .ok (.aload_n 0, 1) := by decide +kernel
theorem dX1_day_61 : decode cX1_day 61 = .ok (.getfield 60, 3) := by decide +kernel
theorem dX1_day_64 : decode cX1_day 64 = .ok (.ireturn, 1) := by decide +kernel
theorem dX1_news_0 : decode cX1_news 0 = .ok (.iconst 0, 1) := by decide +kernel
theorem dX1_news_1 : decode cX1_news 1 = .ok (.istore_n 1, 1) := by decide +kernel
theorem dX1_news_2 : decode cX1_news 2 = .ok (.iconst 0, 1) := by decide +kernel
theorem dX1_news_3 : decode cX1_news 3 = .ok (.istore_n 2, 1) := by decide +kernel
theorem dX1_news_4 : decode cX1_news 4 = .ok (.iload_n 2, 1) := by decide +kernel
theorem dX1_news_5 : decode cX1_news 5 = .ok (.aload_n 0, 1) := by decide +kernel
theorem dX1_news_6 : decode cX1_news 6 = .ok (.getfield 53, 3) := by decide +kernel
theorem dX1_news_9 : decode cX1_news 9 = .ok (.if_icmp .ge 35, 3) := by decide +kernel
theorem dX1_news_12 : decode cX1_news 12 = .ok (.iload_n 1, 1) := by decide +kernel
theorem dX1_news_13 : decode cX1_news 13 = .ok (.aload_n 0, 1) := by decide +kernel
theorem dX1_news_14 : decode cX1_news 14 = .ok (.getfield 60, 3) := by decide +kernel
theorem dX1_news_17 : decode cX1_news 17 = .ok (.aload_n 0, 1) := by decide +kernel
theorem dX1_news_18 : decode cX1_news 18 = .ok (.getfield 26, 3) := by decide +kernel
theorem dX1_news_21 : decode cX1_news 21 = .ok (.iload_n 2, 1) := by decide +kernel
theorem dX1_news_22 : decode cX1_news 22 = .ok (.iaload, 1) := by decide +kernel
theorem dX1_news_23 : decode cX1_news 23 = .ok (.isub, 1) := by decide +kernel
theorem dX1_news_24 : decode cX1_news 24 = .ok (.bipush 10, 2) := by decide +kernel
theorem dX1_news_26 : decode cX1_news 26 = .ok (.if_icmp .ge 9, 3) := by decide +kernel
theorem dX1_news_29 : decode cX1_news 29 = .ok (.iconst 1, 1) := by decide +kernel
theorem dX1_news_30 : decode cX1_news 30 = .ok (.iload_n 2, 1) := by decide +kernel
theorem dX1_news_31 : decode cX1_news 31 = .ok (.ishl, 1) := by decide +kernel
theorem dX1_news_32 : decode cX1_news 32 = .ok (.goto 4, 3) := by decide +kernel
theorem dX1_news_35 : decode cX1_news 35 = .ok (.iconst 0, 1) := by decide +kernel
theorem dX1_news_36 : decode cX1_news 36 = .ok (.ior, 1) := by decide +kernel
theorem dX1_news_37 : decode cX1_news 37 = .ok (.istore_n 1, 1) := by decide +kernel
theorem dX1_news_38 : decode cX1_news 38 = .ok (.iinc 2 1, 3) := by decide +kernel
theorem dX1_news_41 : decode cX1_news 41 = .ok (.goto (-37), 3) := by decide +kernel
theorem dX1_news_44 : decode cX1_news 44 = .ok (.iload_n 1, 1) := by decide +kernel
theorem dX1_news_45 : decode cX1_news 45 = .ok (.ireturn, 1) := by decide +kernel
theorem dX1_look_0 : decode cX1_look 0 = .ok (.iload_n 1, 1) := by decide +kernel
theorem dX1_look_1 : decode cX1_look 1 = .ok (.tableswitch 96 0 8 #[51, 56, 61, 66, 71, 76, 81, 86, 91], 51) := by decide +kernel
theorem dX1_look_52 : decode cX1_look 52 = .ok (.aload_n 0, 1) := by decide +kernel
theorem dX1_look_53 : decode cX1_look 53 = .ok (.getfield 60, 3) := by decide +kernel
theorem dX1_look_56 : decode cX1_look 56 = .ok (.ireturn, 1) := by decide +kernel
theorem dX1_look_57 : decode cX1_look 57 = .ok (.aload_n 0, 1) := by decide +kernel
theorem dX1_look_58 : decode cX1_look 58 = .ok (.getfield 53, 3) := by decide +kernel
theorem dX1_look_61 : decode cX1_look 61 = .ok (.ireturn, 1) := by decide +kernel
theorem dX1_look_62 : decode cX1_look 62 = .ok (.aload_n 0, 1) := by decide +kernel
theorem dX1_look_63 : decode cX1_look 63 = .ok (.getfield 73, 3) := by decide +kernel
theorem dX1_look_66 : decode cX1_look 66 = .ok (.ireturn, 1) := by decide +kernel
theorem dX1_look_67 : decode cX1_look 67 = .ok (.aload_n 0, 1) := by decide +kernel
theorem dX1_look_68 : decode cX1_look 68 = .ok (.getfield 7, 3) := by decide +kernel
theorem dX1_look_71 : decode cX1_look 71 = .ok (.ireturn, 1) := by decide +kernel
theorem dX1_look_72 : decode cX1_look 72 = .ok (.aload_n 0, 1) := by decide +kernel
theorem dX1_look_73 : decode cX1_look 73 = .ok (.getfield 13, 3) := by decide +kernel
theorem dX1_look_76 : decode cX1_look 76 = .ok (.ireturn, 1) := by decide +kernel
theorem dX1_look_77 : decode cX1_look 77 = .ok (.aload_n 0, 1) := by decide +kernel
theorem dX1_look_78 : decode cX1_look 78 = .ok (.getfield 16, 3) := by decide +kernel
theorem dX1_look_81 : decode cX1_look 81 = .ok (.ireturn, 1) := by decide +kernel
theorem dX1_look_82 : decode cX1_look 82 = .ok (.aload_n 0, 1) := by decide +kernel
theorem dX1_look_83 : decode cX1_look 83 = .ok (.getfield 19, 3) := by decide +kernel
theorem dX1_look_86 : decode cX1_look 86 = .ok (.ireturn, 1) := by decide +kernel
theorem dX1_look_87 : decode cX1_look 87 = .ok (.aload_n 0, 1) := by decide +kernel
theorem dX1_look_88 : decode cX1_look 88 = .ok (.getfield 63, 3) := by decide +kernel
theorem dX1_look_91 : decode cX1_look 91 = .ok (.ireturn, 1) := by decide +kernel
theorem dX1_look_92 : decode cX1_look 92 = .ok (.aload_n 0, 1) := by decide +kernel
theorem dX1_look_93 : decode cX1_look 93 = .ok (.invokevirtual 80, 3) := by decide +kernel
theorem dX1_look_96 : decode cX1_look 96 = .ok (.ireturn, 1) := by decide +kernel
theorem dX1_look_97 : decode cX1_look 97 = .ok (.iconst (-1), 1) := by decide +kernel
theorem dX1_look_98 : decode cX1_look 98 = .ok (.ireturn, 1) := by decide +kernel
theorem dX1_of_0 : decode cX1_of 0 = .ok (.iload_n 1, 1) := by decide +kernel
theorem dX1_of_1 : decode cX1_of 1 = .ok (.iconst 0, 1) := by decide +kernel
theorem dX1_of_2 : decode cX1_of 2 = .ok (.aload_n 0, 1) := by decide +kernel
theorem dX1_of_3 : decode cX1_of 3 = .ok (.getfield 73, 3) := by decide +kernel
theorem dX1_of_6 : decode cX1_of 6 = .ok (.iconst 1, 1) := by decide +kernel
theorem dX1_of_7 : decode cX1_of 7 = .ok (.isub, 1) := by decide +kernel
theorem dX1_of_8 : decode cX1_of 8 = .ok (.invokestatic 56, 3) := by decide +kernel
theorem dX1_of_11 : decode cX1_of 11 = .ok (.ifCond .ne 5, 3) := by decide +kernel
theorem dX1_of_14 : decode cX1_of 14 = .ok (.iconst (-1), 1) := by decide +kernel
theorem dX1_of_15 : decode cX1_of 15 = .ok (.ireturn, 1) := by decide +kernel
theorem dX1_of_16 : decode cX1_of 16 = .ok (.iload_n 2, 1) := by decide +kernel
theorem dX1_of_17 : decode cX1_of 17 = .ok (.ifCond .ne 12, 3) := by decide +kernel
theorem dX1_of_20 : decode cX1_of 20 = .ok (.aload_n 0, 1) := by decide +kernel
theorem dX1_of_21 : decode cX1_of 21 = .ok (.getfield 32, 3) := by decide +kernel
theorem dX1_of_24 : decode cX1_of 24 = .ok (.iload_n 1, 1) := by decide +kernel
theorem dX1_of_25 : decode cX1_of 25 = .ok (.iaload, 1) := by decide +kernel
theorem dX1_of_26 : decode cX1_of 26 = .ok (.goto 32, 3) := by decide +kernel
theorem dX1_of_29 : decode cX1_of 29 = .ok (.iload_n 2, 1) := by decide +kernel
theorem dX1_of_30 : decode cX1_of 30 = .ok (.iconst 1, 1) := by decide +kernel
theorem dX1_of_31 : decode cX1_of 31 = .ok (.if_icmp .ne 12, 3) := by decide +kernel
theorem dX1_of_34 : decode cX1_of 34 = .ok (.aload_n 0, 1) := by decide +kernel
theorem dX1_of_35 : decode cX1_of 35 = .ok (.getfield 35, 3) := by decide +kernel
theorem dX1_of_38 : decode cX1_of 38 = .ok (.iload_n 1, 1) := by decide +kernel
theorem dX1_of_39 : decode cX1_of 39 = .ok (.iaload, 1) := by decide +kernel
theorem dX1_of_40 : decode cX1_of 40 = .ok (.goto 18, 3) := by decide +kernel
theorem dX1_of_43 : decode cX1_of 43 = .ok (.iload_n 2, 1) := by decide +kernel
theorem dX1_of_44 : decode cX1_of 44 = .ok (.iconst 2, 1) := by decide +kernel
theorem dX1_of_45 : decode cX1_of 45 = .ok (.if_icmp .ne 12, 3) := by decide +kernel
theorem dX1_of_48 : decode cX1_of 48 = .ok (.aload_n 0, 1) := by decide +kernel
theorem dX1_of_49 : decode cX1_of 49 = .ok (.getfield 38, 3) := by decide +kernel
theorem dX1_of_52 : decode cX1_of 52 = .ok (.iload_n 1, 1) := by decide +kernel
theorem dX1_of_53 : decode cX1_of 53 = .ok (.iaload, 1) := by decide +kernel
theorem dX1_of_54 : decode cX1_of 54 = .ok (.goto 4, 3) := by decide +kernel
theorem dX1_of_57 : decode cX1_of 57 = .ok (.iconst (-1), 1) := by decide +kernel
theorem dX1_of_58 : decode cX1_of 58 = .ok (.ireturn, 1) := by decide +kernel
theorem dX1_both_0 : decode cX1_both 0 = .ok (.iconst 0, 1) := by decide +kernel
theorem dX1_both_1 : decode cX1_both 1 = .ok (.istore_n 3, 1) := by decide +kernel
theorem dX1_both_2 : decode cX1_both 2 = .ok (.iconst 0, 1) := by decide +kernel
theorem dX1_both_3 : decode cX1_both 3 = .ok (.istore 4, 2) := by decide +kernel
theorem dX1_both_5 : decode cX1_both 5 = .ok (.iload 4, 2) := by decide +kernel
theorem dX1_both_7 : decode cX1_both 7 = .ok (.aload_n 0, 1) := by decide +kernel
theorem dX1_both_8 : decode cX1_both 8 = .ok (.getfield 73, 3) := by decide +kernel
theorem dX1_both_11 : decode cX1_both 11 = .ok (.if_icmp .ge 47, 3) := by decide +kernel
theorem dX1_both_14 : decode cX1_both 14 = .ok (.iload_n 3, 1) := by decide +kernel
theorem dX1_both_15 : decode cX1_both 15 = .ok (.aload_n 0, 1) := by decide +kernel
theorem dX1_both_16 : decode cX1_both 16 = .ok (.getfield 38, 3) := by decide +kernel
theorem dX1_both_19 : decode cX1_both 19 = .ok (.iload 4, 2) := by decide +kernel
theorem dX1_both_21 : decode cX1_both 21 = .ok (.iaload, 1) := by decide +kernel
theorem dX1_both_22 : decode cX1_both 22 = .ok (.iload_n 1, 1) := by decide +kernel
theorem dX1_both_23 : decode cX1_both 23 = .ok (.ishr, 1) := by decide +kernel
theorem dX1_both_24 : decode cX1_both 24 = .ok (.iconst 1, 1) := by decide +kernel
theorem dX1_both_25 : decode cX1_both 25 = .ok (.iand, 1) := by decide +kernel
theorem dX1_both_26 : decode cX1_both 26 = .ok (.iconst 1, 1) := by decide +kernel
theorem dX1_both_27 : decode cX1_both 27 = .ok (.if_icmp .ne 22, 3) := by decide +kernel
theorem dX1_both_30 : decode cX1_both 30 = .ok (.aload_n 0, 1) := by decide +kernel
theorem dX1_both_31 : decode cX1_both 31 = .ok (.getfield 38, 3) := by decide +kernel
theorem dX1_both_34 : decode cX1_both 34 = .ok (.iload 4, 2) := by decide +kernel
theorem dX1_both_36 : decode cX1_both 36 = .ok (.iaload, 1) := by decide +kernel
theorem dX1_both_37 : decode cX1_both 37 = .ok (.iload_n 2, 1) := by decide +kernel
theorem dX1_both_38 : decode cX1_both 38 = .ok (.ishr, 1) := by decide +kernel
theorem dX1_both_39 : decode cX1_both 39 = .ok (.iconst 1, 1) := by decide +kernel
theorem dX1_both_40 : decode cX1_both 40 = .ok (.iand, 1) := by decide +kernel
theorem dX1_both_41 : decode cX1_both 41 = .ok (.iconst 1, 1) := by decide +kernel
theorem dX1_both_42 : decode cX1_both 42 = .ok (.if_icmp .ne 7, 3) := by decide +kernel
theorem dX1_both_45 : decode cX1_both 45 = .ok (.iconst 1, 1) := by decide +kernel
theorem dX1_both_46 : decode cX1_both 46 = .ok (.goto 4, 3) := by decide +kernel
theorem dX1_both_49 : decode cX1_both 49 = .ok (.iconst 0, 1) := by decide +kernel
theorem dX1_both_50 : decode cX1_both 50 = .ok (.iadd, 1) := by decide +kernel
theorem dX1_both_51 : decode cX1_both 51 = .ok (.istore_n 3, 1) := by decide +kernel
theorem dX1_both_52 : decode cX1_both 52 = .ok (.iinc 4 1, 3) := by decide +kernel
theorem dX1_both_55 : decode cX1_both 55 = .ok (.goto (-50), 3) := by decide +kernel
theorem dX1_both_58 : decode cX1_both 58 = .ok (.iload_n 3, 1) := by decide +kernel
theorem dX1_both_59 : decode cX1_both 59 = .ok (.ireturn, 1) := by decide +kernel
theorem dX1_people_0 : decode cX1_people 0 = .ok (.iconst 0, 1) := by decide +kernel
theorem dX1_people_1 : decode cX1_people 1 = .ok (.istore_n 3, 1) := by decide +kernel
theorem dX1_people_2 : decode cX1_people 2 = .ok (.iconst 0, 1) := by decide +kernel
theorem dX1_people_3 : decode cX1_people 3 = .ok (.istore 4, 2) := by decide +kernel
theorem dX1_people_5 : decode cX1_people 5 = .ok (.iload 4, 2) := by decide +kernel
theorem dX1_people_7 : decode cX1_people 7 = .ok (.bipush 8, 2) := by decide +kernel
theorem dX1_people_9 : decode cX1_people 9 = .ok (.if_icmp .ge 97, 3) := by decide +kernel
theorem dX1_people_12 : decode cX1_people 12 = .ok (.iconst 0, 1) := by decide +kernel
theorem dX1_people_13 : decode cX1_people 13 = .ok (.istore 5, 2) := by decide +kernel
theorem dX1_people_15 : decode cX1_people 15 = .ok (.iconst 0, 1) := by decide +kernel
theorem dX1_people_16 : decode cX1_people 16 = .ok (.istore 6, 2) := by decide +kernel
theorem dX1_people_18 : decode cX1_people 18 = .ok (.iload 6, 2) := by decide +kernel
theorem dX1_people_20 : decode cX1_people 20 = .ok (.aload_n 0, 1) := by decide +kernel
theorem dX1_people_21 : decode cX1_people 21 = .ok (.getfield 73, 3) := by decide +kernel
theorem dX1_people_24 : decode cX1_people 24 = .ok (.if_icmp .ge 63, 3) := by decide +kernel
theorem dX1_people_27 : decode cX1_people 27 = .ok (.iload 5, 2) := by decide +kernel
theorem dX1_people_29 : decode cX1_people 29 = .ok (.ifCond .ne 45, 3) := by decide +kernel
theorem dX1_people_32 : decode cX1_people 32 = .ok (.aload_n 0, 1) := by decide +kernel
theorem dX1_people_33 : decode cX1_people 33 = .ok (.getfield 32, 3) := by decide +kernel
theorem dX1_people_36 : decode cX1_people 36 = .ok (.iload 6, 2) := by decide +kernel
theorem dX1_people_38 : decode cX1_people 38 = .ok (.iaload, 1) := by decide +kernel
theorem dX1_people_39 : decode cX1_people 39 = .ok (.iload 4, 2) := by decide +kernel
theorem dX1_people_41 : decode cX1_people 41 = .ok (.if_icmp .ne 37, 3) := by decide +kernel
theorem dX1_people_44 : decode cX1_people 44 = .ok (.aload_n 0, 1) := by decide +kernel
theorem dX1_people_45 : decode cX1_people 45 = .ok (.getfield 38, 3) := by decide +kernel
theorem dX1_people_48 : decode cX1_people 48 = .ok (.iload 6, 2) := by decide +kernel
theorem dX1_people_50 : decode cX1_people 50 = .ok (.iaload, 1) := by decide +kernel
theorem dX1_people_51 : decode cX1_people 51 = .ok (.iload_n 1, 1) := by decide +kernel
theorem dX1_people_52 : decode cX1_people 52 = .ok (.ishr, 1) := by decide +kernel
theorem dX1_people_53 : decode cX1_people 53 = .ok (.iconst 1, 1) := by decide +kernel
theorem dX1_people_54 : decode cX1_people 54 = .ok (.iand, 1) := by decide +kernel
theorem dX1_people_55 : decode cX1_people 55 = .ok (.iconst 1, 1) := by decide +kernel
theorem dX1_people_56 : decode cX1_people 56 = .ok (.if_icmp .ne 22, 3) := by decide +kernel
theorem dX1_people_59 : decode cX1_people 59 = .ok (.aload_n 0, 1) := by decide +kernel
theorem dX1_people_60 : decode cX1_people 60 = .ok (.getfield 38, 3) := by decide +kernel
theorem dX1_people_63 : decode cX1_people 63 = .ok (.iload 6, 2) := by decide +kernel
theorem dX1_people_65 : decode cX1_people 65 = .ok (.iaload, 1) := by decide +kernel
theorem dX1_people_66 : decode cX1_people 66 = .ok (.iload_n 2, 1) := by decide +kernel
theorem dX1_people_67 : decode cX1_people 67 = .ok (.ishr, 1) := by decide +kernel
theorem dX1_people_68 : decode cX1_people 68 = .ok (.iconst 1, 1) := by decide +kernel
theorem dX1_people_69 : decode cX1_people 69 = .ok (.iand, 1) := by decide +kernel
theorem dX1_people_70 : decode cX1_people 70 = .ok (.iconst 1, 1) := by decide +kernel
theorem dX1_people_71 : decode cX1_people 71 = .ok (.if_icmp .ne 7, 3) := by decide +kernel
theorem dX1_people_74 : decode cX1_people 74 = .ok (.iconst 1, 1) := by decide +kernel
theorem dX1_people_75 : decode cX1_people 75 = .ok (.goto 4, 3) := by decide +kernel
theorem dX1_people_78 : decode cX1_people 78 = .ok (.iconst 0, 1) := by decide +kernel
theorem dX1_people_79 : decode cX1_people 79 = .ok (.istore 5, 2) := by decide +kernel
theorem dX1_people_81 : decode cX1_people 81 = .ok (.iinc 6 1, 3) := by decide +kernel
theorem dX1_people_84 : decode cX1_people 84 = .ok (.goto (-66), 3) := by decide +kernel
theorem dX1_people_87 : decode cX1_people 87 = .ok (.iload_n 3, 1) := by decide +kernel
theorem dX1_people_88 : decode cX1_people 88 = .ok (.iload 5, 2) := by decide +kernel
theorem dX1_people_90 : decode cX1_people 90 = .ok (.ifCond .eq 7, 3) := by decide +kernel
theorem dX1_people_93 : decode cX1_people 93 = .ok (.iconst 1, 1) := by decide +kernel
theorem dX1_people_94 : decode cX1_people 94 = .ok (.goto 4, 3) := by decide +kernel
theorem dX1_people_97 : decode cX1_people 97 = .ok (.iconst 0, 1) := by decide +kernel
theorem dX1_people_98 : decode cX1_people 98 = .ok (.iadd, 1) := by decide +kernel
theorem dX1_people_99 : decode cX1_people 99 = .ok (.istore_n 3, 1) := by decide +kernel
theorem dX1_people_100 : decode cX1_people 100 = .ok (.iinc 4 1, 3) := by decide +kernel
theorem dX1_people_103 : decode cX1_people 103 = .ok (.goto (-98), 3) := by decide +kernel
theorem dX1_people_106 : decode cX1_people 106 = .ok (.iload_n 3, 1) := by decide +kernel
theorem dX1_people_107 : decode cX1_people 107 = .ok (.ireturn, 1) := by decide +kernel
theorem dX1_count_0 : decode cX1_count 0 = .ok (.aload_n 0, 1) := by decide +kernel
theorem dX1_count_1 : decode cX1_count 1 = .ok (.iload_n 1, 1) := by decide +kernel
theorem dX1_count_2 : decode cX1_count 2 = .ok (.invokevirtual 66, 3) := by decide +kernel
theorem dX1_count_5 : decode cX1_count 5 = .ok (.ifCond .eq 11, 3) := by decide +kernel
theorem dX1_count_8 : decode cX1_count 8 = .ok (.aload_n 0, 1) := by decide +kernel
theorem dX1_count_9 : decode cX1_count 9 = .ok (.iload_n 2, 1) := by decide +kernel
theorem dX1_count_10 : decode cX1_count 10 = .ok (.invokevirtual 66, 3) := by decide +kernel
theorem dX1_count_13 : decode cX1_count 13 = .ok (.ifCond .ne 7, 3) := by decide +kernel
theorem dX1_count_16 : decode cX1_count 16 = .ok (.iconst (-1), 1) := by decide +kernel
theorem dX1_count_17 : decode cX1_count 17 = .ok (.goto 31, 3) := by decide +kernel
theorem dX1_count_20 : decode cX1_count 20 = .ok (.iload_n 3, 1) := by decide +kernel
theorem dX1_count_21 : decode cX1_count 21 = .ok (.ifCond .ne 12, 3) := by decide +kernel
theorem dX1_count_24 : decode cX1_count 24 = .ok (.aload_n 0, 1) := by decide +kernel
theorem dX1_count_25 : decode cX1_count 25 = .ok (.iload_n 1, 1) := by decide +kernel
theorem dX1_count_26 : decode cX1_count 26 = .ok (.iload_n 2, 1) := by decide +kernel
theorem dX1_count_27 : decode cX1_count 27 = .ok (.invokevirtual 84, 3) := by decide +kernel
theorem dX1_count_30 : decode cX1_count 30 = .ok (.goto 18, 3) := by decide +kernel
theorem dX1_count_33 : decode cX1_count 33 = .ok (.iload_n 3, 1) := by decide +kernel
theorem dX1_count_34 : decode cX1_count 34 = .ok (.iconst 1, 1) := by decide +kernel
theorem dX1_count_35 : decode cX1_count 35 = .ok (.if_icmp .ne 12, 3) := by decide +kernel
theorem dX1_count_38 : decode cX1_count 38 = .ok (.aload_n 0, 1) := by decide +kernel
theorem dX1_count_39 : decode cX1_count 39 = .ok (.iload_n 1, 1) := by decide +kernel
theorem dX1_count_40 : decode cX1_count 40 = .ok (.iload_n 2, 1) := by decide +kernel
theorem dX1_count_41 : decode cX1_count 41 = .ok (.invokevirtual 88, 3) := by decide +kernel
theorem dX1_count_44 : decode cX1_count 44 = .ok (.goto 4, 3) := by decide +kernel
theorem dX1_count_47 : decode cX1_count 47 = .ok (.iconst (-1), 1) := by decide +kernel
theorem dX1_count_48 : decode cX1_count 48 = .ok (.ireturn, 1) := by decide +kernel
theorem dX1_kinOf_0 : decode cX1_kinOf 0 = .ok (.aload_n 0, 1) := by decide +kernel
theorem dX1_kinOf_1 : decode cX1_kinOf 1 = .ok (.iload_n 1, 1) := by decide +kernel
theorem dX1_kinOf_2 : decode cX1_kinOf 2 = .ok (.iload_n 1, 1) := by decide +kernel
theorem dX1_kinOf_3 : decode cX1_kinOf 3 = .ok (.invokevirtual 84, 3) := by decide +kernel
theorem dX1_kinOf_6 : decode cX1_kinOf 6 = .ok (.istore_n 3, 1) := by decide +kernel
theorem dX1_kinOf_7 : decode cX1_kinOf 7 = .ok (.aload_n 0, 1) := by decide +kernel
theorem dX1_kinOf_8 : decode cX1_kinOf 8 = .ok (.iload_n 2, 1) := by decide +kernel
theorem dX1_kinOf_9 : decode cX1_kinOf 9 = .ok (.iload_n 2, 1) := by decide +kernel
theorem dX1_kinOf_10 : decode cX1_kinOf 10 = .ok (.invokevirtual 84, 3) := by decide +kernel
theorem dX1_kinOf_13 : decode cX1_kinOf 13 = .ok (.istore 4, 2) := by decide +kernel
theorem dX1_kinOf_15 : decode cX1_kinOf 15 = .ok (.iload_n 3, 1) := by decide +kernel
theorem dX1_kinOf_16 : decode cX1_kinOf 16 = .ok (.ifCond .eq 21, 3) := by decide +kernel
theorem dX1_kinOf_19 : decode cX1_kinOf 19 = .ok (.iload 4, 2) := by decide +kernel
theorem dX1_kinOf_21 : decode cX1_kinOf 21 = .ok (.ifCond .eq 16, 3) := by decide +kernel
theorem dX1_kinOf_24 : decode cX1_kinOf 24 = .ok (.aload_n 0, 1) := by decide +kernel
theorem dX1_kinOf_25 : decode cX1_kinOf 25 = .ok (.iload_n 1, 1) := by decide +kernel
theorem dX1_kinOf_26 : decode cX1_kinOf 26 = .ok (.iload_n 2, 1) := by decide +kernel
theorem dX1_kinOf_27 : decode cX1_kinOf 27 = .ok (.invokevirtual 88, 3) := by decide +kernel
theorem dX1_kinOf_30 : decode cX1_kinOf 30 = .ok (.aload_n 0, 1) := by decide +kernel
theorem dX1_kinOf_31 : decode cX1_kinOf 31 = .ok (.getfield 7, 3) := by decide +kernel
theorem dX1_kinOf_34 : decode cX1_kinOf 34 = .ok (.if_icmp .ge 5, 3) := by decide +kernel
theorem dX1_kinOf_37 : decode cX1_kinOf 37 = .ok (.iconst 0, 1) := by decide +kernel
theorem dX1_kinOf_38 : decode cX1_kinOf 38 = .ok (.ireturn, 1) := by decide +kernel
theorem dX1_kinOf_39 : decode cX1_kinOf 39 = .ok (.sipush 1000, 3) := by decide +kernel
theorem dX1_kinOf_42 : decode cX1_kinOf 42 = .ok (.aload_n 0, 1) := by decide +kernel
theorem dX1_kinOf_43 : decode cX1_kinOf 43 = .ok (.iload_n 1, 1) := by decide +kernel
theorem dX1_kinOf_44 : decode cX1_kinOf 44 = .ok (.iload_n 2, 1) := by decide +kernel
theorem dX1_kinOf_45 : decode cX1_kinOf 45 = .ok (.invokevirtual 84, 3) := by decide +kernel
theorem dX1_kinOf_48 : decode cX1_kinOf 48 = .ok (.imul, 1) := by decide +kernel
theorem dX1_kinOf_49 : decode cX1_kinOf 49 = .ok (.aload_n 0, 1) := by decide +kernel
theorem dX1_kinOf_50 : decode cX1_kinOf 50 = .ok (.getfield 73, 3) := by decide +kernel
theorem dX1_kinOf_53 : decode cX1_kinOf 53 = .ok (.imul, 1) := by decide +kernel
theorem dX1_kinOf_54 : decode cX1_kinOf 54 = .ok (.iload_n 3, 1) := by decide +kernel
theorem dX1_kinOf_55 : decode cX1_kinOf 55 = .ok (.iload 4, 2) := by decide +kernel
theorem dX1_kinOf_57 : decode cX1_kinOf 57 = .ok (.imul, 1) := by decide +kernel
theorem dX1_kinOf_58 : decode cX1_kinOf 58 = .ok (.idiv, 1) := by decide +kernel
theorem dX1_kinOf_59 : decode cX1_kinOf 59 = .ok (.sipush 1000, 3) := by decide +kernel
theorem dX1_kinOf_62 : decode cX1_kinOf 62 = .ok (.isub, 1) := by decide +kernel
theorem dX1_kinOf_63 : decode cX1_kinOf 63 = .ok (.ireturn, 1) := by decide +kernel
theorem dX1_kin_0 : decode cX1_kin 0 = .ok (.aload_n 0, 1) := by decide +kernel
theorem dX1_kin_1 : decode cX1_kin 1 = .ok (.iload_n 1, 1) := by decide +kernel
theorem dX1_kin_2 : decode cX1_kin 2 = .ok (.invokevirtual 66, 3) := by decide +kernel
theorem dX1_kin_5 : decode cX1_kin 5 = .ok (.ifCond .eq 25, 3) := by decide +kernel
theorem dX1_kin_8 : decode cX1_kin 8 = .ok (.aload_n 0, 1) := by decide +kernel
theorem dX1_kin_9 : decode cX1_kin 9 = .ok (.iload_n 2, 1) := by decide +kernel
theorem dX1_kin_10 : decode cX1_kin 10 = .ok (.invokevirtual 66, 3) := by decide +kernel
theorem dX1_kin_13 : decode cX1_kin 13 = .ok (.ifCond .eq 17, 3) := by decide +kernel
theorem dX1_kin_16 : decode cX1_kin 16 = .ok (.iload_n 1, 1) := by decide +kernel
theorem dX1_kin_17 : decode cX1_kin 17 = .ok (.iload_n 2, 1) := by decide +kernel
theorem dX1_kin_18 : decode cX1_kin 18 = .ok (.if_icmp .eq 12, 3) := by decide +kernel
theorem dX1_kin_21 : decode cX1_kin 21 = .ok (.aload_n 0, 1) := by decide +kernel
theorem dX1_kin_22 : decode cX1_kin 22 = .ok (.iload_n 1, 1) := by decide +kernel
theorem dX1_kin_23 : decode cX1_kin 23 = .ok (.iload_n 2, 1) := by decide +kernel
theorem dX1_kin_24 : decode cX1_kin 24 = .ok (.invokevirtual 91, 3) := by decide +kernel
theorem dX1_kin_27 : decode cX1_kin 27 = .ok (.goto 5, 3) := by decide +kernel
theorem dX1_kin_30 : decode cX1_kin 30 = .ok (.ldc 94, 2) := by decide +kernel
theorem dX1_kin_32 : decode cX1_kin 32 = .ok (.ireturn, 1) := by decide +kernel
theorem dX1_near_0 : decode cX1_near 0 = .ok (.aload_n 0, 1) := by decide +kernel
theorem dX1_near_1 : decode cX1_near 1 = .ok (.iload_n 1, 1) := by decide +kernel
theorem dX1_near_2 : decode cX1_near 2 = .ok (.invokevirtual 66, 3) := by decide +kernel
theorem dX1_near_5 : decode cX1_near 5 = .ok (.ifCond .eq 17, 3) := by decide +kernel
theorem dX1_near_8 : decode cX1_near 8 = .ok (.iload_n 2, 1) := by decide +kernel
theorem dX1_near_9 : decode cX1_near 9 = .ok (.iconst 0, 1) := by decide +kernel
theorem dX1_near_10 : decode cX1_near 10 = .ok (.aload_n 0, 1) := by decide +kernel
theorem dX1_near_11 : decode cX1_near 11 = .ok (.getfield 53, 3) := by decide +kernel
theorem dX1_near_14 : decode cX1_near 14 = .ok (.iconst 2, 1) := by decide +kernel
theorem dX1_near_15 : decode cX1_near 15 = .ok (.isub, 1) := by decide +kernel
theorem dX1_near_16 : decode cX1_near 16 = .ok (.invokestatic 56, 3) := by decide +kernel
theorem dX1_near_19 : decode cX1_near 19 = .ok (.ifCond .ne 5, 3) := by decide +kernel
theorem dX1_near_22 : decode cX1_near 22 = .ok (.iconst (-1), 1) := by decide +kernel
theorem dX1_near_23 : decode cX1_near 23 = .ok (.ireturn, 1) := by decide +kernel
theorem dX1_near_24 : decode cX1_near 24 = .ok (.iconst 1, 1) := by decide +kernel
theorem dX1_near_25 : decode cX1_near 25 = .ok (.aload_n 0, 1) := by decide +kernel
theorem dX1_near_26 : decode cX1_near 26 = .ok (.getfield 53, 3) := by decide +kernel
theorem dX1_near_29 : decode cX1_near 29 = .ok (.ishl, 1) := by decide +kernel
theorem dX1_near_30 : decode cX1_near 30 = .ok (.iconst 1, 1) := by decide +kernel
theorem dX1_near_31 : decode cX1_near 31 = .ok (.isub, 1) := by decide +kernel
theorem dX1_near_32 : decode cX1_near 32 = .ok (.iconst 1, 1) := by decide +kernel
theorem dX1_near_33 : decode cX1_near 33 = .ok (.iload_n 1, 1) := by decide +kernel
theorem dX1_near_34 : decode cX1_near 34 = .ok (.ishl, 1) := by decide +kernel
theorem dX1_near_35 : decode cX1_near 35 = .ok (.iconst (-1), 1) := by decide +kernel
theorem dX1_near_36 : decode cX1_near 36 = .ok (.ixor, 1) := by decide +kernel
theorem dX1_near_37 : decode cX1_near 37 = .ok (.iand, 1) := by decide +kernel
theorem dX1_near_38 : decode cX1_near 38 = .ok (.istore_n 3, 1) := by decide +kernel
theorem dX1_near_39 : decode cX1_near 39 = .ok (.iconst (-1), 1) := by decide +kernel
theorem dX1_near_40 : decode cX1_near 40 = .ok (.istore 4, 2) := by decide +kernel
theorem dX1_near_42 : decode cX1_near 42 = .ok (.iconst 0, 1) := by decide +kernel
theorem dX1_near_43 : decode cX1_near 43 = .ok (.istore 5, 2) := by decide +kernel
theorem dX1_near_45 : decode cX1_near 45 = .ok (.iload 5, 2) := by decide +kernel
theorem dX1_near_47 : decode cX1_near 47 = .ok (.iload_n 2, 1) := by decide +kernel
theorem dX1_near_48 : decode cX1_near 48 = .ok (.if_icmp .gt 76, 3) := by decide +kernel
theorem dX1_near_51 : decode cX1_near 51 = .ok (.iconst (-1), 1) := by decide +kernel
theorem dX1_near_52 : decode cX1_near 52 = .ok (.istore 4, 2) := by decide +kernel
theorem dX1_near_54 : decode cX1_near 54 = .ok (.iconst 0, 1) := by decide +kernel
theorem dX1_near_55 : decode cX1_near 55 = .ok (.istore 6, 2) := by decide +kernel
theorem dX1_near_57 : decode cX1_near 57 = .ok (.iload 6, 2) := by decide +kernel
theorem dX1_near_59 : decode cX1_near 59 = .ok (.aload_n 0, 1) := by decide +kernel
theorem dX1_near_60 : decode cX1_near 60 = .ok (.getfield 53, 3) := by decide +kernel
theorem dX1_near_63 : decode cX1_near 63 = .ok (.if_icmp .ge 46, 3) := by decide +kernel
theorem dX1_near_66 : decode cX1_near 66 = .ok (.iload_n 3, 1) := by decide +kernel
theorem dX1_near_67 : decode cX1_near 67 = .ok (.iload 6, 2) := by decide +kernel
theorem dX1_near_69 : decode cX1_near 69 = .ok (.ishr, 1) := by decide +kernel
theorem dX1_near_70 : decode cX1_near 70 = .ok (.iconst 1, 1) := by decide +kernel
theorem dX1_near_71 : decode cX1_near 71 = .ok (.iand, 1) := by decide +kernel
theorem dX1_near_72 : decode cX1_near 72 = .ok (.iconst 1, 1) := by decide +kernel
theorem dX1_near_73 : decode cX1_near 73 = .ok (.if_icmp .ne 30, 3) := by decide +kernel
theorem dX1_near_76 : decode cX1_near 76 = .ok (.iload 4, 2) := by decide +kernel
theorem dX1_near_78 : decode cX1_near 78 = .ok (.iconst (-1), 1) := by decide +kernel
theorem dX1_near_79 : decode cX1_near 79 = .ok (.if_icmp .eq 20, 3) := by decide +kernel
theorem dX1_near_82 : decode cX1_near 82 = .ok (.aload_n 0, 1) := by decide +kernel
theorem dX1_near_83 : decode cX1_near 83 = .ok (.iload_n 1, 1) := by decide +kernel
theorem dX1_near_84 : decode cX1_near 84 = .ok (.iload 6, 2) := by decide +kernel
theorem dX1_near_86 : decode cX1_near 86 = .ok (.invokevirtual 91, 3) := by decide +kernel
theorem dX1_near_89 : decode cX1_near 89 = .ok (.aload_n 0, 1) := by decide +kernel
theorem dX1_near_90 : decode cX1_near 90 = .ok (.iload_n 1, 1) := by decide +kernel
theorem dX1_near_91 : decode cX1_near 91 = .ok (.iload 4, 2) := by decide +kernel
theorem dX1_near_93 : decode cX1_near 93 = .ok (.invokevirtual 91, 3) := by decide +kernel
theorem dX1_near_96 : decode cX1_near 96 = .ok (.if_icmp .le 7, 3) := by decide +kernel
theorem dX1_near_99 : decode cX1_near 99 = .ok (.iload 6, 2) := by decide +kernel
theorem dX1_near_101 : decode cX1_near 101 = .ok (.istore 4, 2) := by decide +kernel
theorem dX1_near_103 : decode cX1_near 103 = .ok (.iinc 6 1, 3) := by decide +kernel
theorem dX1_near_106 : decode cX1_near 106 = .ok (.goto (-49), 3) := by decide +kernel
theorem dX1_near_109 : decode cX1_near 109 = .ok (.iload_n 3, 1) := by decide +kernel
theorem dX1_near_110 : decode cX1_near 110 = .ok (.iconst 1, 1) := by decide +kernel
theorem dX1_near_111 : decode cX1_near 111 = .ok (.iload 4, 2) := by decide +kernel
theorem dX1_near_113 : decode cX1_near 113 = .ok (.ishl, 1) := by decide +kernel
theorem dX1_near_114 : decode cX1_near 114 = .ok (.iconst (-1), 1) := by decide +kernel
theorem dX1_near_115 : decode cX1_near 115 = .ok (.ixor, 1) := by decide +kernel
theorem dX1_near_116 : decode cX1_near 116 = .ok (.iand, 1) := by decide +kernel
theorem dX1_near_117 : decode cX1_near 117 = .ok (.istore_n 3, 1) := by decide +kernel
theorem dX1_near_118 : decode cX1_near 118 = .ok (.iinc 5 1, 3) := by decide +kernel
theorem dX1_near_121 : decode cX1_near 121 = .ok (.goto (-76), 3) := by decide +kernel
theorem dX1_near_124 : decode cX1_near 124 = .ok (.iload 4, 2) := by decide +kernel
theorem dX1_near_126 : decode cX1_near 126 = .ok (.ireturn, 1) := by decide +kernel
theorem dX1_takenBy_0 : decode cX1_takenBy 0 = .ok (.iconst 0, 1) := by decide +kernel
theorem dX1_takenBy_1 : decode cX1_takenBy 1 = .ok (.istore_n 2, 1) := by decide +kernel
theorem dX1_takenBy_2 : decode cX1_takenBy 2 = .ok (.iconst 0, 1) := by decide +kernel
theorem dX1_takenBy_3 : decode cX1_takenBy 3 = .ok (.istore_n 3, 1) := by decide +kernel
theorem dX1_takenBy_4 : decode cX1_takenBy 4 = .ok (.iload_n 3, 1) := by decide +kernel
theorem dX1_takenBy_5 : decode cX1_takenBy 5 = .ok (.aload_n 0, 1) := by decide +kernel
theorem dX1_takenBy_6 : decode cX1_takenBy 6 = .ok (.getfield 73, 3) := by decide +kernel
theorem dX1_takenBy_9 : decode cX1_takenBy 9 = .ok (.if_icmp .ge 32, 3) := by decide +kernel
theorem dX1_takenBy_12 : decode cX1_takenBy 12 = .ok (.iload_n 2, 1) := by decide +kernel
theorem dX1_takenBy_13 : decode cX1_takenBy 13 = .ok (.aload_n 0, 1) := by decide +kernel
theorem dX1_takenBy_14 : decode cX1_takenBy 14 = .ok (.getfield 32, 3) := by decide +kernel
theorem dX1_takenBy_17 : decode cX1_takenBy 17 = .ok (.iload_n 3, 1) := by decide +kernel
theorem dX1_takenBy_18 : decode cX1_takenBy 18 = .ok (.iaload, 1) := by decide +kernel
theorem dX1_takenBy_19 : decode cX1_takenBy 19 = .ok (.iload_n 1, 1) := by decide +kernel
theorem dX1_takenBy_20 : decode cX1_takenBy 20 = .ok (.if_icmp .ne 12, 3) := by decide +kernel
theorem dX1_takenBy_23 : decode cX1_takenBy 23 = .ok (.aload_n 0, 1) := by decide +kernel
theorem dX1_takenBy_24 : decode cX1_takenBy 24 = .ok (.getfield 38, 3) := by decide +kernel
theorem dX1_takenBy_27 : decode cX1_takenBy 27 = .ok (.iload_n 3, 1) := by decide +kernel
theorem dX1_takenBy_28 : decode cX1_takenBy 28 = .ok (.iaload, 1) := by decide +kernel
theorem dX1_takenBy_29 : decode cX1_takenBy 29 = .ok (.goto 4, 3) := by decide +kernel
theorem dX1_takenBy_32 : decode cX1_takenBy 32 = .ok (.iconst 0, 1) := by decide +kernel
theorem dX1_takenBy_33 : decode cX1_takenBy 33 = .ok (.ior, 1) := by decide +kernel
theorem dX1_takenBy_34 : decode cX1_takenBy 34 = .ok (.istore_n 2, 1) := by decide +kernel
theorem dX1_takenBy_35 : decode cX1_takenBy 35 = .ok (.iinc 3 1, 3) := by decide +kernel
theorem dX1_takenBy_38 : decode cX1_takenBy 38 = .ok (.goto (-34), 3) := by decide +kernel
theorem dX1_takenBy_41 : decode cX1_takenBy 41 = .ok (.iload_n 2, 1) := by decide +kernel
theorem dX1_takenBy_42 : decode cX1_takenBy 42 = .ok (.ireturn, 1) := by decide +kernel
theorem dX1_taken_0 : decode cX1_taken 0 = .ok (.iload_n 1, 1) := by decide +kernel
theorem dX1_taken_1 : decode cX1_taken 1 = .ok (.invokestatic 70, 3) := by decide +kernel
theorem dX1_taken_4 : decode cX1_taken 4 = .ok (.ifCond .eq 11, 3) := by decide +kernel
theorem dX1_taken_7 : decode cX1_taken 7 = .ok (.aload_n 0, 1) := by decide +kernel
theorem dX1_taken_8 : decode cX1_taken 8 = .ok (.iload_n 1, 1) := by decide +kernel
theorem dX1_taken_9 : decode cX1_taken 9 = .ok (.invokevirtual 95, 3) := by decide +kernel
theorem dX1_taken_12 : decode cX1_taken 12 = .ok (.goto 4, 3) := by decide +kernel
theorem dX1_taken_15 : decode cX1_taken 15 = .ok (.iconst (-1), 1) := by decide +kernel
theorem dX1_taken_16 : decode cX1_taken 16 = .ok (.ireturn, 1) := by decide +kernel
theorem dX1_scoreOf_0 : decode cX1_scoreOf 0 = .ok (.aload_n 0, 1) := by decide +kernel
theorem dX1_scoreOf_1 : decode cX1_scoreOf 1 = .ok (.iload_n 1, 1) := by decide +kernel
theorem dX1_scoreOf_2 : decode cX1_scoreOf 2 = .ok (.invokevirtual 95, 3) := by decide +kernel
theorem dX1_scoreOf_5 : decode cX1_scoreOf 5 = .ok (.istore_n 3, 1) := by decide +kernel
theorem dX1_scoreOf_6 : decode cX1_scoreOf 6 = .ok (.iconst 0, 1) := by decide +kernel
theorem dX1_scoreOf_7 : decode cX1_scoreOf 7 = .ok (.istore 4, 2) := by decide +kernel
theorem dX1_scoreOf_9 : decode cX1_scoreOf 9 = .ok (.iconst 0, 1) := by decide +kernel
theorem dX1_scoreOf_10 : decode cX1_scoreOf 10 = .ok (.istore 5, 2) := by decide +kernel
theorem dX1_scoreOf_12 : decode cX1_scoreOf 12 = .ok (.iload 5, 2) := by decide +kernel
theorem dX1_scoreOf_14 : decode cX1_scoreOf 14 = .ok (.aload_n 0, 1) := by decide +kernel
theorem dX1_scoreOf_15 : decode cX1_scoreOf 15 = .ok (.getfield 53, 3) := by decide +kernel
theorem dX1_scoreOf_18 : decode cX1_scoreOf 18 = .ok (.if_icmp .ge 41, 3) := by decide +kernel
theorem dX1_scoreOf_21 : decode cX1_scoreOf 21 = .ok (.iload 4, 2) := by decide +kernel
theorem dX1_scoreOf_23 : decode cX1_scoreOf 23 = .ok (.iload 5, 2) := by decide +kernel
theorem dX1_scoreOf_25 : decode cX1_scoreOf 25 = .ok (.iload_n 2, 1) := by decide +kernel
theorem dX1_scoreOf_26 : decode cX1_scoreOf 26 = .ok (.if_icmp .eq 23, 3) := by decide +kernel
theorem dX1_scoreOf_29 : decode cX1_scoreOf 29 = .ok (.iload_n 3, 1) := by decide +kernel
theorem dX1_scoreOf_30 : decode cX1_scoreOf 30 = .ok (.iload 5, 2) := by decide +kernel
theorem dX1_scoreOf_32 : decode cX1_scoreOf 32 = .ok (.ishr, 1) := by decide +kernel
theorem dX1_scoreOf_33 : decode cX1_scoreOf 33 = .ok (.iconst 1, 1) := by decide +kernel
theorem dX1_scoreOf_34 : decode cX1_scoreOf 34 = .ok (.iand, 1) := by decide +kernel
theorem dX1_scoreOf_35 : decode cX1_scoreOf 35 = .ok (.iconst 1, 1) := by decide +kernel
theorem dX1_scoreOf_36 : decode cX1_scoreOf 36 = .ok (.if_icmp .ne 13, 3) := by decide +kernel
theorem dX1_scoreOf_39 : decode cX1_scoreOf 39 = .ok (.aload_n 0, 1) := by decide +kernel
theorem dX1_scoreOf_40 : decode cX1_scoreOf 40 = .ok (.iload_n 2, 1) := by decide +kernel
theorem dX1_scoreOf_41 : decode cX1_scoreOf 41 = .ok (.iload 5, 2) := by decide +kernel
theorem dX1_scoreOf_43 : decode cX1_scoreOf 43 = .ok (.invokevirtual 91, 3) := by decide +kernel
theorem dX1_scoreOf_46 : decode cX1_scoreOf 46 = .ok (.goto 4, 3) := by decide +kernel
theorem dX1_scoreOf_49 : decode cX1_scoreOf 49 = .ok (.iconst 0, 1) := by decide +kernel
theorem dX1_scoreOf_50 : decode cX1_scoreOf 50 = .ok (.iadd, 1) := by decide +kernel
theorem dX1_scoreOf_51 : decode cX1_scoreOf 51 = .ok (.istore 4, 2) := by decide +kernel
theorem dX1_scoreOf_53 : decode cX1_scoreOf 53 = .ok (.iinc 5 1, 3) := by decide +kernel
theorem dX1_scoreOf_56 : decode cX1_scoreOf 56 = .ok (.goto (-44), 3) := by decide +kernel
theorem dX1_scoreOf_59 : decode cX1_scoreOf 59 = .ok (.iload 4, 2) := by decide +kernel
theorem dX1_scoreOf_61 : decode cX1_scoreOf 61 = .ok (.ireturn, 1) := by decide +kernel
theorem dX1_score_0 : decode cX1_score 0 = .ok (.iload_n 1, 1) := by decide +kernel
theorem dX1_score_1 : decode cX1_score 1 = .ok (.invokestatic 70, 3) := by decide +kernel
theorem dX1_score_4 : decode cX1_score 4 = .ok (.ifCond .eq 20, 3) := by decide +kernel
theorem dX1_score_7 : decode cX1_score 7 = .ok (.aload_n 0, 1) := by decide +kernel
theorem dX1_score_8 : decode cX1_score 8 = .ok (.iload_n 2, 1) := by decide +kernel
theorem dX1_score_9 : decode cX1_score 9 = .ok (.invokevirtual 66, 3) := by decide +kernel
theorem dX1_score_12 : decode cX1_score 12 = .ok (.ifCond .eq 12, 3) := by decide +kernel
theorem dX1_score_15 : decode cX1_score 15 = .ok (.aload_n 0, 1) := by decide +kernel
theorem dX1_score_16 : decode cX1_score 16 = .ok (.iload_n 1, 1) := by decide +kernel
theorem dX1_score_17 : decode cX1_score 17 = .ok (.iload_n 2, 1) := by decide +kernel
theorem dX1_score_18 : decode cX1_score 18 = .ok (.invokevirtual 99, 3) := by decide +kernel
theorem dX1_score_21 : decode cX1_score 21 = .ok (.goto 5, 3) := by decide +kernel
theorem dX1_score_24 : decode cX1_score 24 = .ok (.ldc 94, 2) := by decide +kernel
theorem dX1_score_26 : decode cX1_score 26 = .ok (.ireturn, 1) := by decide +kernel
theorem dX1_mayFor_0 : decode cX1_mayFor 0 = .ok (.aload_n 0, 1) := by decide +kernel
theorem dX1_mayFor_1 : decode cX1_mayFor 1 = .ok (.getfield 63, 3) := by decide +kernel
theorem dX1_mayFor_4 : decode cX1_mayFor 4 = .ok (.aload_n 0, 1) := by decide +kernel
theorem dX1_mayFor_5 : decode cX1_mayFor 5 = .ok (.iload_n 1, 1) := by decide +kernel
theorem dX1_mayFor_6 : decode cX1_mayFor 6 = .ok (.invokevirtual 95, 3) := by decide +kernel
theorem dX1_mayFor_9 : decode cX1_mayFor 9 = .ok (.iconst (-1), 1) := by decide +kernel
theorem dX1_mayFor_10 : decode cX1_mayFor 10 = .ok (.ixor, 1) := by decide +kernel
theorem dX1_mayFor_11 : decode cX1_mayFor 11 = .ok (.iand, 1) := by decide +kernel
theorem dX1_mayFor_12 : decode cX1_mayFor 12 = .ok (.istore_n 2, 1) := by decide +kernel
theorem dX1_mayFor_13 : decode cX1_mayFor 13 = .ok (.iconst 0, 1) := by decide +kernel
theorem dX1_mayFor_14 : decode cX1_mayFor 14 = .ok (.istore_n 3, 1) := by decide +kernel
theorem dX1_mayFor_15 : decode cX1_mayFor 15 = .ok (.iload_n 3, 1) := by decide +kernel
theorem dX1_mayFor_16 : decode cX1_mayFor 16 = .ok (.aload_n 0, 1) := by decide +kernel
theorem dX1_mayFor_17 : decode cX1_mayFor 17 = .ok (.getfield 53, 3) := by decide +kernel
theorem dX1_mayFor_20 : decode cX1_mayFor 20 = .ok (.if_icmp .ge 35, 3) := by decide +kernel
theorem dX1_mayFor_23 : decode cX1_mayFor 23 = .ok (.aload_n 0, 1) := by decide +kernel
theorem dX1_mayFor_24 : decode cX1_mayFor 24 = .ok (.getfield 60, 3) := by decide +kernel
theorem dX1_mayFor_27 : decode cX1_mayFor 27 = .ok (.aload_n 0, 1) := by decide +kernel
theorem dX1_mayFor_28 : decode cX1_mayFor 28 = .ok (.getfield 47, 3) := by decide +kernel
theorem dX1_mayFor_31 : decode cX1_mayFor 31 = .ok (.bipush 12, 2) := by decide +kernel
theorem dX1_mayFor_33 : decode cX1_mayFor 33 = .ok (.iload_n 1, 1) := by decide +kernel
theorem dX1_mayFor_34 : decode cX1_mayFor 34 = .ok (.imul, 1) := by decide +kernel
theorem dX1_mayFor_35 : decode cX1_mayFor 35 = .ok (.iload_n 3, 1) := by decide +kernel
theorem dX1_mayFor_36 : decode cX1_mayFor 36 = .ok (.iadd, 1) := by decide +kernel
theorem dX1_mayFor_37 : decode cX1_mayFor 37 = .ok (.iaload, 1) := by decide +kernel
theorem dX1_mayFor_38 : decode cX1_mayFor 38 = .ok (.if_icmp .ge 11, 3) := by decide +kernel
theorem dX1_mayFor_41 : decode cX1_mayFor 41 = .ok (.iload_n 2, 1) := by decide +kernel
theorem dX1_mayFor_42 : decode cX1_mayFor 42 = .ok (.iconst 1, 1) := by decide +kernel
theorem dX1_mayFor_43 : decode cX1_mayFor 43 = .ok (.iload_n 3, 1) := by decide +kernel
theorem dX1_mayFor_44 : decode cX1_mayFor 44 = .ok (.ishl, 1) := by decide +kernel
theorem dX1_mayFor_45 : decode cX1_mayFor 45 = .ok (.iconst (-1), 1) := by decide +kernel
theorem dX1_mayFor_46 : decode cX1_mayFor 46 = .ok (.ixor, 1) := by decide +kernel
theorem dX1_mayFor_47 : decode cX1_mayFor 47 = .ok (.iand, 1) := by decide +kernel
theorem dX1_mayFor_48 : decode cX1_mayFor 48 = .ok (.istore_n 2, 1) := by decide +kernel
theorem dX1_mayFor_49 : decode cX1_mayFor 49 = .ok (.iinc 3 1, 3) := by decide +kernel
theorem dX1_mayFor_52 : decode cX1_mayFor 52 = .ok (.goto (-37), 3) := by decide +kernel
theorem dX1_mayFor_55 : decode cX1_mayFor 55 = .ok (.iload_n 2, 1) := by decide +kernel
theorem dX1_mayFor_56 : decode cX1_mayFor 56 = .ok (.ireturn, 1) := by decide +kernel
theorem dX1_may_0 : decode cX1_may 0 = .ok (.iload_n 1, 1) := by decide +kernel
theorem dX1_may_1 : decode cX1_may 1 = .ok (.invokestatic 70, 3) := by decide +kernel
theorem dX1_may_4 : decode cX1_may 4 = .ok (.ifCond .eq 11, 3) := by decide +kernel
theorem dX1_may_7 : decode cX1_may 7 = .ok (.aload_n 0, 1) := by decide +kernel
theorem dX1_may_8 : decode cX1_may 8 = .ok (.iload_n 1, 1) := by decide +kernel
theorem dX1_may_9 : decode cX1_may 9 = .ok (.invokevirtual 102, 3) := by decide +kernel
theorem dX1_may_12 : decode cX1_may 12 = .ok (.goto 4, 3) := by decide +kernel
theorem dX1_may_15 : decode cX1_may 15 = .ok (.iconst (-1), 1) := by decide +kernel
theorem dX1_may_16 : decode cX1_may 16 = .ok (.ireturn, 1) := by decide +kernel
theorem dX1_bits_0 : decode cX1_bits 0 = .ok (.iconst 0, 1) := by decide +kernel
theorem dX1_bits_1 : decode cX1_bits 1 = .ok (.istore_n 1, 1) := by decide +kernel
theorem dX1_bits_2 : decode cX1_bits 2 = .ok (.iconst 0, 1) := by decide +kernel
theorem dX1_bits_3 : decode cX1_bits 3 = .ok (.istore_n 2, 1) := by decide +kernel
theorem dX1_bits_4 : decode cX1_bits 4 = .ok (.iload_n 2, 1) := by decide +kernel
theorem dX1_bits_5 : decode cX1_bits 5 = .ok (.bipush 12, 2) := by decide +kernel
theorem dX1_bits_7 : decode cX1_bits 7 = .ok (.if_icmp .ge 17, 3) := by decide +kernel
theorem dX1_bits_10 : decode cX1_bits 10 = .ok (.iload_n 1, 1) := by decide +kernel
theorem dX1_bits_11 : decode cX1_bits 11 = .ok (.iload_n 0, 1) := by decide +kernel
theorem dX1_bits_12 : decode cX1_bits 12 = .ok (.iload_n 2, 1) := by decide +kernel
theorem dX1_bits_13 : decode cX1_bits 13 = .ok (.ishr, 1) := by decide +kernel
theorem dX1_bits_14 : decode cX1_bits 14 = .ok (.iconst 1, 1) := by decide +kernel
theorem dX1_bits_15 : decode cX1_bits 15 = .ok (.iand, 1) := by decide +kernel
theorem dX1_bits_16 : decode cX1_bits 16 = .ok (.iadd, 1) := by decide +kernel
theorem dX1_bits_17 : decode cX1_bits 17 = .ok (.istore_n 1, 1) := by decide +kernel
theorem dX1_bits_18 : decode cX1_bits 18 = .ok (.iinc 2 1, 3) := by decide +kernel
theorem dX1_bits_21 : decode cX1_bits 21 = .ok (.goto (-17), 3) := by decide +kernel
theorem dX1_bits_24 : decode cX1_bits 24 = .ok (.iload_n 1, 1) := by decide +kernel
theorem dX1_bits_25 : decode cX1_bits 25 = .ok (.ireturn, 1) := by decide +kernel
theorem dX1_keeps_0 : decode cX1_keeps 0 = .ok (.iconst 0, 1) := by decide +kernel
theorem dX1_keeps_1 : decode cX1_keeps 1 = .ok (.istore_n 2, 1) := by decide +kernel
theorem dX1_keeps_2 : decode cX1_keeps 2 = .ok (.iload_n 2, 1) := by decide +kernel
theorem dX1_keeps_3 : decode cX1_keeps 3 = .ok (.iconst 4, 1) := by decide +kernel
theorem dX1_keeps_4 : decode cX1_keeps 4 = .ok (.if_icmp .ge 68, 3) := by decide +kernel
theorem dX1_keeps_7 : decode cX1_keeps 7 = .ok (.iconst 0, 1) := by decide +kernel
theorem dX1_keeps_8 : decode cX1_keeps 8 = .ok (.istore_n 3, 1) := by decide +kernel
theorem dX1_keeps_9 : decode cX1_keeps 9 = .ok (.iconst 0, 1) := by decide +kernel
theorem dX1_keeps_10 : decode cX1_keeps 10 = .ok (.istore 4, 2) := by decide +kernel
theorem dX1_keeps_12 : decode cX1_keeps 12 = .ok (.iload 4, 2) := by decide +kernel
theorem dX1_keeps_14 : decode cX1_keeps 14 = .ok (.aload_n 0, 1) := by decide +kernel
theorem dX1_keeps_15 : decode cX1_keeps 15 = .ok (.getfield 53, 3) := by decide +kernel
theorem dX1_keeps_18 : decode cX1_keeps 18 = .ok (.if_icmp .ge 38, 3) := by decide +kernel
theorem dX1_keeps_21 : decode cX1_keeps 21 = .ok (.iload_n 3, 1) := by decide +kernel
theorem dX1_keeps_22 : decode cX1_keeps 22 = .ok (.iload_n 1, 1) := by decide +kernel
theorem dX1_keeps_23 : decode cX1_keeps 23 = .ok (.iload 4, 2) := by decide +kernel
theorem dX1_keeps_25 : decode cX1_keeps 25 = .ok (.ishr, 1) := by decide +kernel
theorem dX1_keeps_26 : decode cX1_keeps 26 = .ok (.iconst 1, 1) := by decide +kernel
theorem dX1_keeps_27 : decode cX1_keeps 27 = .ok (.iand, 1) := by decide +kernel
theorem dX1_keeps_28 : decode cX1_keeps 28 = .ok (.iconst 1, 1) := by decide +kernel
theorem dX1_keeps_29 : decode cX1_keeps 29 = .ok (.if_icmp .ne 18, 3) := by decide +kernel
theorem dX1_keeps_32 : decode cX1_keeps 32 = .ok (.aload_n 0, 1) := by decide +kernel
theorem dX1_keeps_33 : decode cX1_keeps 33 = .ok (.getfield 22, 3) := by decide +kernel
theorem dX1_keeps_36 : decode cX1_keeps 36 = .ok (.iload 4, 2) := by decide +kernel
theorem dX1_keeps_38 : decode cX1_keeps 38 = .ok (.iaload, 1) := by decide +kernel
theorem dX1_keeps_39 : decode cX1_keeps 39 = .ok (.iload_n 2, 1) := by decide +kernel
theorem dX1_keeps_40 : decode cX1_keeps 40 = .ok (.if_icmp .ne 7, 3) := by decide +kernel
theorem dX1_keeps_43 : decode cX1_keeps 43 = .ok (.iconst 1, 1) := by decide +kernel
theorem dX1_keeps_44 : decode cX1_keeps 44 = .ok (.goto 4, 3) := by decide +kernel
theorem dX1_keeps_47 : decode cX1_keeps 47 = .ok (.iconst 0, 1) := by decide +kernel
theorem dX1_keeps_48 : decode cX1_keeps 48 = .ok (.iadd, 1) := by decide +kernel
theorem dX1_keeps_49 : decode cX1_keeps 49 = .ok (.istore_n 3, 1) := by decide +kernel
theorem dX1_keeps_50 : decode cX1_keeps 50 = .ok (.iinc 4 1, 3) := by decide +kernel
theorem dX1_keeps_53 : decode cX1_keeps 53 = .ok (.goto (-41), 3) := by decide +kernel
theorem dX1_keeps_56 : decode cX1_keeps 56 = .ok (.iload_n 3, 1) := by decide +kernel
theorem dX1_keeps_57 : decode cX1_keeps 57 = .ok (.aload_n 0, 1) := by decide +kernel
theorem dX1_keeps_58 : decode cX1_keeps 58 = .ok (.getfield 13, 3) := by decide +kernel
theorem dX1_keeps_61 : decode cX1_keeps 61 = .ok (.if_icmp .le 5, 3) := by decide +kernel
theorem dX1_keeps_64 : decode cX1_keeps 64 = .ok (.iconst 0, 1) := by decide +kernel
theorem dX1_keeps_65 : decode cX1_keeps 65 = .ok (.ireturn, 1) := by decide +kernel
theorem dX1_keeps_66 : decode cX1_keeps 66 = .ok (.iinc 2 1, 3) := by decide +kernel
theorem dX1_keeps_69 : decode cX1_keeps 69 = .ok (.goto (-67), 3) := by decide +kernel
theorem dX1_keeps_72 : decode cX1_keeps 72 = .ok (.iconst 0, 1) := by decide +kernel
theorem dX1_keeps_73 : decode cX1_keeps 73 = .ok (.istore_n 2, 1) := by decide +kernel
theorem dX1_keeps_74 : decode cX1_keeps 74 = .ok (.iload_n 2, 1) := by decide +kernel
theorem dX1_keeps_75 : decode cX1_keeps 75 = .ok (.aload_n 0, 1) := by decide +kernel
theorem dX1_keeps_76 : decode cX1_keeps 76 = .ok (.getfield 53, 3) := by decide +kernel
theorem dX1_keeps_79 : decode cX1_keeps 79 = .ok (.if_icmp .ge 31, 3) := by decide +kernel
theorem dX1_keeps_82 : decode cX1_keeps 82 = .ok (.iload_n 1, 1) := by decide +kernel
theorem dX1_keeps_83 : decode cX1_keeps 83 = .ok (.iload_n 2, 1) := by decide +kernel
theorem dX1_keeps_84 : decode cX1_keeps 84 = .ok (.ishr, 1) := by decide +kernel
theorem dX1_keeps_85 : decode cX1_keeps 85 = .ok (.iconst 1, 1) := by decide +kernel
theorem dX1_keeps_86 : decode cX1_keeps 86 = .ok (.iand, 1) := by decide +kernel
theorem dX1_keeps_87 : decode cX1_keeps 87 = .ok (.iconst 1, 1) := by decide +kernel
theorem dX1_keeps_88 : decode cX1_keeps 88 = .ok (.if_icmp .ne 16, 3) := by decide +kernel
theorem dX1_keeps_91 : decode cX1_keeps 91 = .ok (.aload_n 0, 1) := by decide +kernel
theorem dX1_keeps_92 : decode cX1_keeps 92 = .ok (.getfield 29, 3) := by decide +kernel
theorem dX1_keeps_95 : decode cX1_keeps 95 = .ok (.iload_n 2, 1) := by decide +kernel
theorem dX1_keeps_96 : decode cX1_keeps 96 = .ok (.iaload, 1) := by decide +kernel
theorem dX1_keeps_97 : decode cX1_keeps 97 = .ok (.iload_n 1, 1) := by decide +kernel
theorem dX1_keeps_98 : decode cX1_keeps 98 = .ok (.iand, 1) := by decide +kernel
theorem dX1_keeps_99 : decode cX1_keeps 99 = .ok (.ifCond .eq 5, 3) := by decide +kernel
theorem dX1_keeps_102 : decode cX1_keeps 102 = .ok (.iconst 0, 1) := by decide +kernel
theorem dX1_keeps_103 : decode cX1_keeps 103 = .ok (.ireturn, 1) := by decide +kernel
theorem dX1_keeps_104 : decode cX1_keeps 104 = .ok (.iinc 2 1, 3) := by decide +kernel
theorem dX1_keeps_107 : decode cX1_keeps 107 = .ok (.goto (-33), 3) := by decide +kernel
theorem dX1_keeps_110 : decode cX1_keeps 110 = .ok (.iconst 1, 1) := by decide +kernel
theorem dX1_keeps_111 : decode cX1_keeps 111 = .ok (.ireturn, 1) := by decide +kernel
theorem dX1_lists_0 : decode cX1_lists 0 = .ok (.iload_n 1, 1) := by decide +kernel
theorem dX1_lists_1 : decode cX1_lists 1 = .ok (.invokestatic 70, 3) := by decide +kernel
theorem dX1_lists_4 : decode cX1_lists 4 = .ok (.ifCond .eq 12, 3) := by decide +kernel
theorem dX1_lists_7 : decode cX1_lists 7 = .ok (.iload_n 2, 1) := by decide +kernel
theorem dX1_lists_8 : decode cX1_lists 8 = .ok (.iconst 1, 1) := by decide +kernel
theorem dX1_lists_9 : decode cX1_lists 9 = .ok (.iconst 5, 1) := by decide +kernel
theorem dX1_lists_10 : decode cX1_lists 10 = .ok (.invokestatic 56, 3) := by decide +kernel
theorem dX1_lists_13 : decode cX1_lists 13 = .ok (.ifCond .ne 5, 3) := by decide +kernel
theorem dX1_lists_16 : decode cX1_lists 16 = .ok (.iconst 0, 1) := by decide +kernel
theorem dX1_lists_17 : decode cX1_lists 17 = .ok (.ireturn, 1) := by decide +kernel
theorem dX1_lists_18 : decode cX1_lists 18 = .ok (.aload_n 0, 1) := by decide +kernel
theorem dX1_lists_19 : decode cX1_lists 19 = .ok (.iload_n 1, 1) := by decide +kernel
theorem dX1_lists_20 : decode cX1_lists 20 = .ok (.invokevirtual 102, 3) := by decide +kernel
theorem dX1_lists_23 : decode cX1_lists 23 = .ok (.istore_n 3, 1) := by decide +kernel
theorem dX1_lists_24 : decode cX1_lists 24 = .ok (.aload_n 0, 1) := by decide +kernel
theorem dX1_lists_25 : decode cX1_lists 25 = .ok (.getfield 41, 3) := by decide +kernel
theorem dX1_lists_28 : decode cX1_lists 28 = .ok (.iload_n 1, 1) := by decide +kernel
theorem dX1_lists_29 : decode cX1_lists 29 = .ok (.iaload, 1) := by decide +kernel
theorem dX1_lists_30 : decode cX1_lists 30 = .ok (.iconst 1, 1) := by decide +kernel
theorem dX1_lists_31 : decode cX1_lists 31 = .ok (.iadd, 1) := by decide +kernel
theorem dX1_lists_32 : decode cX1_lists 32 = .ok (.aload_n 0, 1) := by decide +kernel
theorem dX1_lists_33 : decode cX1_lists 33 = .ok (.getfield 16, 3) := by decide +kernel
theorem dX1_lists_36 : decode cX1_lists 36 = .ok (.irem, 1) := by decide +kernel
theorem dX1_lists_37 : decode cX1_lists 37 = .ok (.ifCond .ne 12, 3) := by decide +kernel
theorem dX1_lists_40 : decode cX1_lists 40 = .ok (.iload_n 3, 1) := by decide +kernel
theorem dX1_lists_41 : decode cX1_lists 41 = .ok (.aload_n 0, 1) := by decide +kernel
theorem dX1_lists_42 : decode cX1_lists 42 = .ok (.invokevirtual 80, 3) := by decide +kernel
theorem dX1_lists_45 : decode cX1_lists 45 = .ok (.iand, 1) := by decide +kernel
theorem dX1_lists_46 : decode cX1_lists 46 = .ok (.goto 4, 3) := by decide +kernel
theorem dX1_lists_49 : decode cX1_lists 49 = .ok (.iconst 0, 1) := by decide +kernel
theorem dX1_lists_50 : decode cX1_lists 50 = .ok (.istore 4, 2) := by decide +kernel
theorem dX1_lists_52 : decode cX1_lists 52 = .ok (.iconst 0, 1) := by decide +kernel
theorem dX1_lists_53 : decode cX1_lists 53 = .ok (.istore 5, 2) := by decide +kernel
theorem dX1_lists_55 : decode cX1_lists 55 = .ok (.iload 5, 2) := by decide +kernel
theorem dX1_lists_57 : decode cX1_lists 57 = .ok (.aload_n 0, 1) := by decide +kernel
theorem dX1_lists_58 : decode cX1_lists 58 = .ok (.getfield 53, 3) := by decide +kernel
theorem dX1_lists_61 : decode cX1_lists 61 = .ok (.if_icmp .ge 23, 3) := by decide +kernel
theorem dX1_lists_64 : decode cX1_lists 64 = .ok (.aload_n 0, 1) := by decide +kernel
theorem dX1_lists_65 : decode cX1_lists 65 = .ok (.getfield 50, 3) := by decide +kernel
theorem dX1_lists_68 : decode cX1_lists 68 = .ok (.iload 5, 2) := by decide +kernel
theorem dX1_lists_70 : decode cX1_lists 70 = .ok (.aload_n 0, 1) := by decide +kernel
theorem dX1_lists_71 : decode cX1_lists 71 = .ok (.iload_n 1, 1) := by decide +kernel
theorem dX1_lists_72 : decode cX1_lists 72 = .ok (.iload 5, 2) := by decide +kernel
theorem dX1_lists_74 : decode cX1_lists 74 = .ok (.invokevirtual 99, 3) := by decide +kernel
theorem dX1_lists_77 : decode cX1_lists 77 = .ok (.iastore, 1) := by decide +kernel
theorem dX1_lists_78 : decode cX1_lists 78 = .ok (.iinc 5 1, 3) := by decide +kernel
theorem dX1_lists_81 : decode cX1_lists 81 = .ok (.goto (-26), 3) := by decide +kernel
theorem dX1_lists_84 : decode cX1_lists 84 = .ok (.aload_n 0, 1) := by decide +kernel
theorem dX1_lists_85 : decode cX1_lists 85 = .ok (.iconst 0, 1) := by decide +kernel
theorem dX1_lists_86 : decode cX1_lists 86 = .ok (.putfield 105, 3) := by decide +kernel
theorem dX1_lists_89 : decode cX1_lists 89 = .ok (.aload_n 0, 1) := by decide +kernel
theorem dX1_lists_90 : decode cX1_lists 90 = .ok (.iconst 0, 1) := by decide +kernel
theorem dX1_lists_91 : decode cX1_lists 91 = .ok (.putfield 108, 3) := by decide +kernel
theorem dX1_lists_94 : decode cX1_lists 94 = .ok (.iconst 1, 1) := by decide +kernel
theorem dX1_lists_95 : decode cX1_lists 95 = .ok (.istore 5, 2) := by decide +kernel
theorem dX1_lists_97 : decode cX1_lists 97 = .ok (.iload 5, 2) := by decide +kernel
theorem dX1_lists_99 : decode cX1_lists 99 = .ok (.iconst 1, 1) := by decide +kernel
theorem dX1_lists_100 : decode cX1_lists 100 = .ok (.aload_n 0, 1) := by decide +kernel
theorem dX1_lists_101 : decode cX1_lists 101 = .ok (.getfield 53, 3) := by decide +kernel
theorem dX1_lists_104 : decode cX1_lists 104 = .ok (.ishl, 1) := by decide +kernel
theorem dX1_lists_105 : decode cX1_lists 105 = .ok (.if_icmp .ge 154, 3) := by decide +kernel
theorem dX1_lists_108 : decode cX1_lists 108 = .ok (.iload 5, 2) := by decide +kernel
theorem dX1_lists_110 : decode cX1_lists 110 = .ok (.iload_n 3, 1) := by decide +kernel
theorem dX1_lists_111 : decode cX1_lists 111 = .ok (.iconst (-1), 1) := by decide +kernel
theorem dX1_lists_112 : decode cX1_lists 112 = .ok (.ixor, 1) := by decide +kernel
theorem dX1_lists_113 : decode cX1_lists 113 = .ok (.iand, 1) := by decide +kernel
theorem dX1_lists_114 : decode cX1_lists 114 = .ok (.ifCond .ne 139, 3) := by decide +kernel
theorem dX1_lists_117 : decode cX1_lists 117 = .ok (.iload 5, 2) := by decide +kernel
theorem dX1_lists_119 : decode cX1_lists 119 = .ok (.invokestatic 111, 3) := by decide +kernel
theorem dX1_lists_122 : decode cX1_lists 122 = .ok (.iload_n 2, 1) := by decide +kernel
theorem dX1_lists_123 : decode cX1_lists 123 = .ok (.if_icmp .gt 130, 3) := by decide +kernel
theorem dX1_lists_126 : decode cX1_lists 126 = .ok (.iload 5, 2) := by decide +kernel
theorem dX1_lists_128 : decode cX1_lists 128 = .ok (.invokestatic 111, 3) := by decide +kernel
theorem dX1_lists_131 : decode cX1_lists 131 = .ok (.aload_n 0, 1) := by decide +kernel
theorem dX1_lists_132 : decode cX1_lists 132 = .ok (.getfield 105, 3) := by decide +kernel
theorem dX1_lists_135 : decode cX1_lists 135 = .ok (.invokestatic 111, 3) := by decide +kernel
theorem dX1_lists_138 : decode cX1_lists 138 = .ok (.if_icmp .lt 115, 3) := by decide +kernel
theorem dX1_lists_141 : decode cX1_lists 141 = .ok (.iload 4, 2) := by decide +kernel
theorem dX1_lists_143 : decode cX1_lists 143 = .ok (.ifCond .eq 11, 3) := by decide +kernel
theorem dX1_lists_146 : decode cX1_lists 146 = .ok (.iload 5, 2) := by decide +kernel
theorem dX1_lists_148 : decode cX1_lists 148 = .ok (.iload 4, 2) := by decide +kernel
theorem dX1_lists_150 : decode cX1_lists 150 = .ok (.iand, 1) := by decide +kernel
theorem dX1_lists_151 : decode cX1_lists 151 = .ok (.ifCond .eq 102, 3) := by decide +kernel
theorem dX1_lists_154 : decode cX1_lists 154 = .ok (.aload_n 0, 1) := by decide +kernel
theorem dX1_lists_155 : decode cX1_lists 155 = .ok (.iload 5, 2) := by decide +kernel
theorem dX1_lists_157 : decode cX1_lists 157 = .ok (.invokevirtual 114, 3) := by decide +kernel
theorem dX1_lists_160 : decode cX1_lists 160 = .ok (.ifCond .ne 6, 3) := by decide +kernel
theorem dX1_lists_163 : decode cX1_lists 163 = .ok (.goto 90, 3) := by decide +kernel
theorem dX1_lists_166 : decode cX1_lists 166 = .ok (.iconst 0, 1) := by decide +kernel
theorem dX1_lists_167 : decode cX1_lists 167 = .ok (.istore 6, 2) := by decide +kernel
theorem dX1_lists_169 : decode cX1_lists 169 = .ok (.iconst 0, 1) := by decide +kernel
theorem dX1_lists_170 : decode cX1_lists 170 = .ok (.istore 7, 2) := by decide +kernel
theorem dX1_lists_172 : decode cX1_lists 172 = .ok (.iload 7, 2) := by decide +kernel
theorem dX1_lists_174 : decode cX1_lists 174 = .ok (.aload_n 0, 1) := by decide +kernel
theorem dX1_lists_175 : decode cX1_lists 175 = .ok (.getfield 53, 3) := by decide +kernel
theorem dX1_lists_178 : decode cX1_lists 178 = .ok (.if_icmp .ge 36, 3) := by decide +kernel
theorem dX1_lists_181 : decode cX1_lists 181 = .ok (.iload 6, 2) := by decide +kernel
theorem dX1_lists_183 : decode cX1_lists 183 = .ok (.iload 5, 2) := by decide +kernel
theorem dX1_lists_185 : decode cX1_lists 185 = .ok (.iload 7, 2) := by decide +kernel
theorem dX1_lists_187 : decode cX1_lists 187 = .ok (.ishr, 1) := by decide +kernel
theorem dX1_lists_188 : decode cX1_lists 188 = .ok (.iconst 1, 1) := by decide +kernel
theorem dX1_lists_189 : decode cX1_lists 189 = .ok (.iand, 1) := by decide +kernel
theorem dX1_lists_190 : decode cX1_lists 190 = .ok (.iconst 1, 1) := by decide +kernel
theorem dX1_lists_191 : decode cX1_lists 191 = .ok (.if_icmp .ne 13, 3) := by decide +kernel
theorem dX1_lists_194 : decode cX1_lists 194 = .ok (.aload_n 0, 1) := by decide +kernel
theorem dX1_lists_195 : decode cX1_lists 195 = .ok (.getfield 50, 3) := by decide +kernel
theorem dX1_lists_198 : decode cX1_lists 198 = .ok (.iload 7, 2) := by decide +kernel
theorem dX1_lists_200 : decode cX1_lists 200 = .ok (.iaload, 1) := by decide +kernel
theorem dX1_lists_201 : decode cX1_lists 201 = .ok (.goto 4, 3) := by decide +kernel
theorem dX1_lists_204 : decode cX1_lists 204 = .ok (.iconst 0, 1) := by decide +kernel
theorem dX1_lists_205 : decode cX1_lists 205 = .ok (.iadd, 1) := by decide +kernel
theorem dX1_lists_206 : decode cX1_lists 206 = .ok (.istore 6, 2) := by decide +kernel
theorem dX1_lists_208 : decode cX1_lists 208 = .ok (.iinc 7 1, 3) := by decide +kernel
theorem dX1_lists_211 : decode cX1_lists 211 = .ok (.goto (-39), 3) := by decide +kernel
theorem dX1_lists_214 : decode cX1_lists 214 = .ok (.iload 5, 2) := by decide +kernel
theorem dX1_lists_216 : decode cX1_lists 216 = .ok (.invokestatic 111, 3) := by decide +kernel
theorem dX1_lists_219 : decode cX1_lists 219 = .ok (.aload_n 0, 1) := by decide +kernel
theorem dX1_lists_220 : decode cX1_lists 220 = .ok (.getfield 105, 3) := by decide +kernel
theorem dX1_lists_223 : decode cX1_lists 223 = .ok (.invokestatic 111, 3) := by decide +kernel
theorem dX1_lists_226 : decode cX1_lists 226 = .ok (.if_icmp .ne 15, 3) := by decide +kernel
theorem dX1_lists_229 : decode cX1_lists 229 = .ok (.iload 6, 2) := by decide +kernel
theorem dX1_lists_231 : decode cX1_lists 231 = .ok (.aload_n 0, 1) := by decide +kernel
theorem dX1_lists_232 : decode cX1_lists 232 = .ok (.getfield 108, 3) := by decide +kernel
theorem dX1_lists_235 : decode cX1_lists 235 = .ok (.if_icmp .gt 6, 3) := by decide +kernel
theorem dX1_lists_238 : decode cX1_lists 238 = .ok (.goto 15, 3) := by decide +kernel
theorem dX1_lists_241 : decode cX1_lists 241 = .ok (.aload_n 0, 1) := by decide +kernel
theorem dX1_lists_242 : decode cX1_lists 242 = .ok (.iload 5, 2) := by decide +kernel
theorem dX1_lists_244 : decode cX1_lists 244 = .ok (.putfield 105, 3) := by decide +kernel
theorem dX1_lists_247 : decode cX1_lists 247 = .ok (.aload_n 0, 1) := by decide +kernel
theorem dX1_lists_248 : decode cX1_lists 248 = .ok (.iload 6, 2) := by decide +kernel
theorem dX1_lists_250 : decode cX1_lists 250 = .ok (.putfield 108, 3) := by decide +kernel
theorem dX1_lists_253 : decode cX1_lists 253 = .ok (.iinc 5 1, 3) := by decide +kernel
theorem dX1_lists_256 : decode cX1_lists 256 = .ok (.goto (-159), 3) := by decide +kernel
theorem dX1_lists_259 : decode cX1_lists 259 = .ok (.iconst 1, 1) := by decide +kernel
theorem dX1_lists_260 : decode cX1_lists 260 = .ok (.ireturn, 1) := by decide +kernel
theorem dX1_list_0 : decode cX1_list 0 = .ok (.iload_n 3, 1) := by decide +kernel
theorem dX1_list_1 : decode cX1_list 1 = .ok (.iconst 0, 1) := by decide +kernel
theorem dX1_list_2 : decode cX1_list 2 = .ok (.iconst 1, 1) := by decide +kernel
theorem dX1_list_3 : decode cX1_list 3 = .ok (.invokestatic 56, 3) := by decide +kernel
theorem dX1_list_6 : decode cX1_list 6 = .ok (.ifCond .eq 30, 3) := by decide +kernel
theorem dX1_list_9 : decode cX1_list 9 = .ok (.aload_n 0, 1) := by decide +kernel
theorem dX1_list_10 : decode cX1_list 10 = .ok (.iload_n 1, 1) := by decide +kernel
theorem dX1_list_11 : decode cX1_list 11 = .ok (.iload_n 2, 1) := by decide +kernel
theorem dX1_list_12 : decode cX1_list 12 = .ok (.invokevirtual 117, 3) := by decide +kernel
theorem dX1_list_15 : decode cX1_list 15 = .ok (.ifCond .eq 21, 3) := by decide +kernel
theorem dX1_list_18 : decode cX1_list 18 = .ok (.iload_n 3, 1) := by decide +kernel
theorem dX1_list_19 : decode cX1_list 19 = .ok (.ifCond .ne 10, 3) := by decide +kernel
theorem dX1_list_22 : decode cX1_list 22 = .ok (.aload_n 0, 1) := by decide +kernel
theorem dX1_list_23 : decode cX1_list 23 = .ok (.getfield 105, 3) := by decide +kernel
theorem dX1_list_26 : decode cX1_list 26 = .ok (.goto 12, 3) := by decide +kernel
theorem dX1_list_29 : decode cX1_list 29 = .ok (.aload_n 0, 1) := by decide +kernel
theorem dX1_list_30 : decode cX1_list 30 = .ok (.getfield 108, 3) := by decide +kernel
theorem dX1_list_33 : decode cX1_list 33 = .ok (.goto 5, 3) := by decide +kernel
theorem dX1_list_36 : decode cX1_list 36 = .ok (.ldc 94, 2) := by decide +kernel
theorem dX1_list_38 : decode cX1_list 38 = .ok (.ireturn, 1) := by decide +kernel
theorem dX1_show_0 : decode cX1_show 0 = .ok (.aload_n 0, 1) := by decide +kernel
theorem dX1_show_1 : decode cX1_show 1 = .ok (.iload_n 1, 1) := by decide +kernel
theorem dX1_show_2 : decode cX1_show 2 = .ok (.iload_n 2, 1) := by decide +kernel
theorem dX1_show_3 : decode cX1_show 3 = .ok (.invokevirtual 117, 3) := by decide +kernel
theorem dX1_show_6 : decode cX1_show 6 = .ok (.ifCond .ne 5, 3) := by decide +kernel
theorem dX1_show_9 : decode cX1_show 9 = .ok (.iconst (-1), 1) := by decide +kernel
theorem dX1_show_10 : decode cX1_show 10 = .ok (.ireturn, 1) := by decide +kernel
theorem dX1_show_11 : decode cX1_show 11 = .ok (.aload_n 0, 1) := by decide +kernel
theorem dX1_show_12 : decode cX1_show 12 = .ok (.getfield 41, 3) := by decide +kernel
theorem dX1_show_15 : decode cX1_show 15 = .ok (.iload_n 1, 1) := by decide +kernel
theorem dX1_show_16 : decode cX1_show 16 = .ok (.dup2, 1) := by decide +kernel
theorem dX1_show_17 : decode cX1_show 17 = .ok (.iaload, 1) := by decide +kernel
theorem dX1_show_18 : decode cX1_show 18 = .ok (.iconst 1, 1) := by decide +kernel
theorem dX1_show_19 : decode cX1_show 19 = .ok (.iadd, 1) := by decide +kernel
theorem dX1_show_20 : decode cX1_show 20 = .ok (.iastore, 1) := by decide +kernel
theorem dX1_show_21 : decode cX1_show 21 = .ok (.iconst 0, 1) := by decide +kernel
theorem dX1_show_22 : decode cX1_show 22 = .ok (.istore_n 3, 1) := by decide +kernel
theorem dX1_show_23 : decode cX1_show 23 = .ok (.iload_n 3, 1) := by decide +kernel
theorem dX1_show_24 : decode cX1_show 24 = .ok (.aload_n 0, 1) := by decide +kernel
theorem dX1_show_25 : decode cX1_show 25 = .ok (.getfield 53, 3) := by decide +kernel
theorem dX1_show_28 : decode cX1_show 28 = .ok (.if_icmp .ge 81, 3) := by decide +kernel
theorem dX1_show_31 : decode cX1_show 31 = .ok (.aload_n 0, 1) := by decide +kernel
theorem dX1_show_32 : decode cX1_show 32 = .ok (.getfield 105, 3) := by decide +kernel
theorem dX1_show_35 : decode cX1_show 35 = .ok (.iload_n 3, 1) := by decide +kernel
theorem dX1_show_36 : decode cX1_show 36 = .ok (.ishr, 1) := by decide +kernel
theorem dX1_show_37 : decode cX1_show 37 = .ok (.iconst 1, 1) := by decide +kernel
theorem dX1_show_38 : decode cX1_show 38 = .ok (.iand, 1) := by decide +kernel
theorem dX1_show_39 : decode cX1_show 39 = .ok (.ifCond .ne 6, 3) := by decide +kernel
theorem dX1_show_42 : decode cX1_show 42 = .ok (.goto 61, 3) := by decide +kernel
theorem dX1_show_45 : decode cX1_show 45 = .ok (.bipush 12, 2) := by decide +kernel
theorem dX1_show_47 : decode cX1_show 47 = .ok (.iload_n 1, 1) := by decide +kernel
theorem dX1_show_48 : decode cX1_show 48 = .ok (.imul, 1) := by decide +kernel
theorem dX1_show_49 : decode cX1_show 49 = .ok (.iload_n 3, 1) := by decide +kernel
theorem dX1_show_50 : decode cX1_show 50 = .ok (.iadd, 1) := by decide +kernel
theorem dX1_show_51 : decode cX1_show 51 = .ok (.istore 4, 2) := by decide +kernel
theorem dX1_show_53 : decode cX1_show 53 = .ok (.aload_n 0, 1) := by decide +kernel
theorem dX1_show_54 : decode cX1_show 54 = .ok (.getfield 44, 3) := by decide +kernel
theorem dX1_show_57 : decode cX1_show 57 = .ok (.iload 4, 2) := by decide +kernel
theorem dX1_show_59 : decode cX1_show 59 = .ok (.dup2, 1) := by decide +kernel
theorem dX1_show_60 : decode cX1_show 60 = .ok (.iaload, 1) := by decide +kernel
theorem dX1_show_61 : decode cX1_show 61 = .ok (.iconst 1, 1) := by decide +kernel
theorem dX1_show_62 : decode cX1_show 62 = .ok (.iadd, 1) := by decide +kernel
theorem dX1_show_63 : decode cX1_show 63 = .ok (.iastore, 1) := by decide +kernel
theorem dX1_show_64 : decode cX1_show 64 = .ok (.aload_n 0, 1) := by decide +kernel
theorem dX1_show_65 : decode cX1_show 65 = .ok (.getfield 44, 3) := by decide +kernel
theorem dX1_show_68 : decode cX1_show 68 = .ok (.iload 4, 2) := by decide +kernel
theorem dX1_show_70 : decode cX1_show 70 = .ok (.iaload, 1) := by decide +kernel
theorem dX1_show_71 : decode cX1_show 71 = .ok (.aload_n 0, 1) := by decide +kernel
theorem dX1_show_72 : decode cX1_show 72 = .ok (.getfield 19, 3) := by decide +kernel
theorem dX1_show_75 : decode cX1_show 75 = .ok (.if_icmp .ge 6, 3) := by decide +kernel
theorem dX1_show_78 : decode cX1_show 78 = .ok (.goto 25, 3) := by decide +kernel
theorem dX1_show_81 : decode cX1_show 81 = .ok (.aload_n 0, 1) := by decide +kernel
theorem dX1_show_82 : decode cX1_show 82 = .ok (.getfield 44, 3) := by decide +kernel
theorem dX1_show_85 : decode cX1_show 85 = .ok (.iload 4, 2) := by decide +kernel
theorem dX1_show_87 : decode cX1_show 87 = .ok (.iconst 0, 1) := by decide +kernel
theorem dX1_show_88 : decode cX1_show 88 = .ok (.iastore, 1) := by decide +kernel
theorem dX1_show_89 : decode cX1_show 89 = .ok (.aload_n 0, 1) := by decide +kernel
theorem dX1_show_90 : decode cX1_show 90 = .ok (.getfield 47, 3) := by decide +kernel
theorem dX1_show_93 : decode cX1_show 93 = .ok (.iload 4, 2) := by decide +kernel
theorem dX1_show_95 : decode cX1_show 95 = .ok (.aload_n 0, 1) := by decide +kernel
theorem dX1_show_96 : decode cX1_show 96 = .ok (.getfield 60, 3) := by decide +kernel
theorem dX1_show_99 : decode cX1_show 99 = .ok (.bipush 7, 2) := by decide +kernel
theorem dX1_show_101 : decode cX1_show 101 = .ok (.iadd, 1) := by decide +kernel
theorem dX1_show_102 : decode cX1_show 102 = .ok (.iastore, 1) := by decide +kernel
theorem dX1_show_103 : decode cX1_show 103 = .ok (.iinc 3 1, 3) := by decide +kernel
theorem dX1_show_106 : decode cX1_show 106 = .ok (.goto (-83), 3) := by decide +kernel
theorem dX1_show_109 : decode cX1_show 109 = .ok (.aload_n 0, 1) := by decide +kernel
theorem dX1_show_110 : decode cX1_show 110 = .ok (.getfield 105, 3) := by decide +kernel
theorem dX1_show_113 : decode cX1_show 113 = .ok (.ireturn, 1) := by decide +kernel
theorem dX1_shown_0 : decode cX1_shown 0 = .ok (.iload_n 1, 1) := by decide +kernel
theorem dX1_shown_1 : decode cX1_shown 1 = .ok (.invokestatic 70, 3) := by decide +kernel
theorem dX1_shown_4 : decode cX1_shown 4 = .ok (.ifCond .ne 5, 3) := by decide +kernel
theorem dX1_shown_7 : decode cX1_shown 7 = .ok (.iconst (-1), 1) := by decide +kernel
theorem dX1_shown_8 : decode cX1_shown 8 = .ok (.ireturn, 1) := by decide +kernel
theorem dX1_shown_9 : decode cX1_shown 9 = .ok (.iload_n 3, 1) := by decide +kernel
theorem dX1_shown_10 : decode cX1_shown 10 = .ok (.iconst 2, 1) := by decide +kernel
theorem dX1_shown_11 : decode cX1_shown 11 = .ok (.if_icmp .ne 19, 3) := by decide +kernel
theorem dX1_shown_14 : decode cX1_shown 14 = .ok (.iload_n 2, 1) := by decide +kernel
theorem dX1_shown_15 : decode cX1_shown 15 = .ok (.iconst (-1), 1) := by decide +kernel
theorem dX1_shown_16 : decode cX1_shown 16 = .ok (.if_icmp .ne 12, 3) := by decide +kernel
theorem dX1_shown_19 : decode cX1_shown 19 = .ok (.aload_n 0, 1) := by decide +kernel
theorem dX1_shown_20 : decode cX1_shown 20 = .ok (.getfield 41, 3) := by decide +kernel
theorem dX1_shown_23 : decode cX1_shown 23 = .ok (.iload_n 1, 1) := by decide +kernel
theorem dX1_shown_24 : decode cX1_shown 24 = .ok (.iaload, 1) := by decide +kernel
theorem dX1_shown_25 : decode cX1_shown 25 = .ok (.goto 4, 3) := by decide +kernel
theorem dX1_shown_28 : decode cX1_shown 28 = .ok (.iconst (-1), 1) := by decide +kernel
theorem dX1_shown_29 : decode cX1_shown 29 = .ok (.ireturn, 1) := by decide +kernel
theorem dX1_shown_30 : decode cX1_shown 30 = .ok (.aload_n 0, 1) := by decide +kernel
theorem dX1_shown_31 : decode cX1_shown 31 = .ok (.iload_n 2, 1) := by decide +kernel
theorem dX1_shown_32 : decode cX1_shown 32 = .ok (.invokevirtual 66, 3) := by decide +kernel
theorem dX1_shown_35 : decode cX1_shown 35 = .ok (.ifCond .ne 5, 3) := by decide +kernel
theorem dX1_shown_38 : decode cX1_shown 38 = .ok (.iconst (-1), 1) := by decide +kernel
theorem dX1_shown_39 : decode cX1_shown 39 = .ok (.ireturn, 1) := by decide +kernel
theorem dX1_shown_40 : decode cX1_shown 40 = .ok (.bipush 12, 2) := by decide +kernel
theorem dX1_shown_42 : decode cX1_shown 42 = .ok (.iload_n 1, 1) := by decide +kernel
theorem dX1_shown_43 : decode cX1_shown 43 = .ok (.imul, 1) := by decide +kernel
theorem dX1_shown_44 : decode cX1_shown 44 = .ok (.iload_n 2, 1) := by decide +kernel
theorem dX1_shown_45 : decode cX1_shown 45 = .ok (.iadd, 1) := by decide +kernel
theorem dX1_shown_46 : decode cX1_shown 46 = .ok (.istore 4, 2) := by decide +kernel
theorem dX1_shown_48 : decode cX1_shown 48 = .ok (.iload_n 3, 1) := by decide +kernel
theorem dX1_shown_49 : decode cX1_shown 49 = .ok (.ifCond .ne 13, 3) := by decide +kernel
theorem dX1_shown_52 : decode cX1_shown 52 = .ok (.aload_n 0, 1) := by decide +kernel
theorem dX1_shown_53 : decode cX1_shown 53 = .ok (.getfield 44, 3) := by decide +kernel
theorem dX1_shown_56 : decode cX1_shown 56 = .ok (.iload 4, 2) := by decide +kernel
theorem dX1_shown_58 : decode cX1_shown 58 = .ok (.iaload, 1) := by decide +kernel
theorem dX1_shown_59 : decode cX1_shown 59 = .ok (.goto 42, 3) := by decide +kernel
theorem dX1_shown_62 : decode cX1_shown 62 = .ok (.iload_n 3, 1) := by decide +kernel
theorem dX1_shown_63 : decode cX1_shown 63 = .ok (.iconst 1, 1) := by decide +kernel
theorem dX1_shown_64 : decode cX1_shown 64 = .ok (.if_icmp .ne 36, 3) := by decide +kernel
theorem dX1_shown_67 : decode cX1_shown 67 = .ok (.aload_n 0, 1) := by decide +kernel
theorem dX1_shown_68 : decode cX1_shown 68 = .ok (.getfield 60, 3) := by decide +kernel
theorem dX1_shown_71 : decode cX1_shown 71 = .ok (.aload_n 0, 1) := by decide +kernel
theorem dX1_shown_72 : decode cX1_shown 72 = .ok (.getfield 47, 3) := by decide +kernel
theorem dX1_shown_75 : decode cX1_shown 75 = .ok (.iload 4, 2) := by decide +kernel
theorem dX1_shown_77 : decode cX1_shown 77 = .ok (.iaload, 1) := by decide +kernel
theorem dX1_shown_78 : decode cX1_shown 78 = .ok (.if_icmp .ge 18, 3) := by decide +kernel
theorem dX1_shown_81 : decode cX1_shown 81 = .ok (.aload_n 0, 1) := by decide +kernel
theorem dX1_shown_82 : decode cX1_shown 82 = .ok (.getfield 47, 3) := by decide +kernel
theorem dX1_shown_85 : decode cX1_shown 85 = .ok (.iload 4, 2) := by decide +kernel
theorem dX1_shown_87 : decode cX1_shown 87 = .ok (.iaload, 1) := by decide +kernel
theorem dX1_shown_88 : decode cX1_shown 88 = .ok (.aload_n 0, 1) := by decide +kernel
theorem dX1_shown_89 : decode cX1_shown 89 = .ok (.getfield 60, 3) := by decide +kernel
theorem dX1_shown_92 : decode cX1_shown 92 = .ok (.isub, 1) := by decide +kernel
theorem dX1_shown_93 : decode cX1_shown 93 = .ok (.goto 8, 3) := by decide +kernel
theorem dX1_shown_96 : decode cX1_shown 96 = .ok (.iconst 0, 1) := by decide +kernel
theorem dX1_shown_97 : decode cX1_shown 97 = .ok (.goto 4, 3) := by decide +kernel
theorem dX1_shown_100 : decode cX1_shown 100 = .ok (.iconst (-1), 1) := by decide +kernel
theorem dX1_shown_101 : decode cX1_shown 101 = .ok (.ireturn, 1) := by decide +kernel
theorem dX1_why_0 : decode cX1_why 0 = .ok (.iload_n 1, 1) := by decide +kernel
theorem dX1_why_1 : decode cX1_why 1 = .ok (.invokestatic 70, 3) := by decide +kernel
theorem dX1_why_4 : decode cX1_why 4 = .ok (.ifCond .eq 20, 3) := by decide +kernel
theorem dX1_why_7 : decode cX1_why 7 = .ok (.aload_n 0, 1) := by decide +kernel
theorem dX1_why_8 : decode cX1_why 8 = .ok (.iload_n 2, 1) := by decide +kernel
theorem dX1_why_9 : decode cX1_why 9 = .ok (.invokevirtual 66, 3) := by decide +kernel
theorem dX1_why_12 : decode cX1_why 12 = .ok (.ifCond .eq 12, 3) := by decide +kernel
theorem dX1_why_15 : decode cX1_why 15 = .ok (.iload_n 3, 1) := by decide +kernel
theorem dX1_why_16 : decode cX1_why 16 = .ok (.iconst 0, 1) := by decide +kernel
theorem dX1_why_17 : decode cX1_why 17 = .ok (.iconst 2, 1) := by decide +kernel
theorem dX1_why_18 : decode cX1_why 18 = .ok (.invokestatic 56, 3) := by decide +kernel
theorem dX1_why_21 : decode cX1_why 21 = .ok (.ifCond .ne 6, 3) := by decide +kernel
theorem dX1_why_24 : decode cX1_why 24 = .ok (.ldc 94, 2) := by decide +kernel
theorem dX1_why_26 : decode cX1_why 26 = .ok (.ireturn, 1) := by decide +kernel
theorem dX1_why_27 : decode cX1_why 27 = .ok (.aload_n 0, 1) := by decide +kernel
theorem dX1_why_28 : decode cX1_why 28 = .ok (.iload_n 1, 1) := by decide +kernel
theorem dX1_why_29 : decode cX1_why 29 = .ok (.invokevirtual 95, 3) := by decide +kernel
theorem dX1_why_32 : decode cX1_why 32 = .ok (.iconst 1, 1) := by decide +kernel
theorem dX1_why_33 : decode cX1_why 33 = .ok (.iload_n 2, 1) := by decide +kernel
theorem dX1_why_34 : decode cX1_why 34 = .ok (.ishl, 1) := by decide +kernel
theorem dX1_why_35 : decode cX1_why 35 = .ok (.iconst (-1), 1) := by decide +kernel
theorem dX1_why_36 : decode cX1_why 36 = .ok (.ixor, 1) := by decide +kernel
theorem dX1_why_37 : decode cX1_why 37 = .ok (.iand, 1) := by decide +kernel
theorem dX1_why_38 : decode cX1_why 38 = .ok (.istore 4, 2) := by decide +kernel
theorem dX1_why_40 : decode cX1_why 40 = .ok (.iconst (-1), 1) := by decide +kernel
theorem dX1_why_41 : decode cX1_why 41 = .ok (.istore 5, 2) := by decide +kernel
theorem dX1_why_43 : decode cX1_why 43 = .ok (.iconst 0, 1) := by decide +kernel
theorem dX1_why_44 : decode cX1_why 44 = .ok (.istore 6, 2) := by decide +kernel
theorem dX1_why_46 : decode cX1_why 46 = .ok (.iload 6, 2) := by decide +kernel
theorem dX1_why_48 : decode cX1_why 48 = .ok (.aload_n 0, 1) := by decide +kernel
theorem dX1_why_49 : decode cX1_why 49 = .ok (.getfield 53, 3) := by decide +kernel
theorem dX1_why_52 : decode cX1_why 52 = .ok (.if_icmp .ge 47, 3) := by decide +kernel
theorem dX1_why_55 : decode cX1_why 55 = .ok (.iload 4, 2) := by decide +kernel
theorem dX1_why_57 : decode cX1_why 57 = .ok (.iload 6, 2) := by decide +kernel
theorem dX1_why_59 : decode cX1_why 59 = .ok (.ishr, 1) := by decide +kernel
theorem dX1_why_60 : decode cX1_why 60 = .ok (.iconst 1, 1) := by decide +kernel
theorem dX1_why_61 : decode cX1_why 61 = .ok (.iand, 1) := by decide +kernel
theorem dX1_why_62 : decode cX1_why 62 = .ok (.iconst 1, 1) := by decide +kernel
theorem dX1_why_63 : decode cX1_why 63 = .ok (.if_icmp .ne 30, 3) := by decide +kernel
theorem dX1_why_66 : decode cX1_why 66 = .ok (.iload 5, 2) := by decide +kernel
theorem dX1_why_68 : decode cX1_why 68 = .ok (.iconst (-1), 1) := by decide +kernel
theorem dX1_why_69 : decode cX1_why 69 = .ok (.if_icmp .eq 20, 3) := by decide +kernel
theorem dX1_why_72 : decode cX1_why 72 = .ok (.aload_n 0, 1) := by decide +kernel
theorem dX1_why_73 : decode cX1_why 73 = .ok (.iload_n 2, 1) := by decide +kernel
theorem dX1_why_74 : decode cX1_why 74 = .ok (.iload 6, 2) := by decide +kernel
theorem dX1_why_76 : decode cX1_why 76 = .ok (.invokevirtual 91, 3) := by decide +kernel
theorem dX1_why_79 : decode cX1_why 79 = .ok (.aload_n 0, 1) := by decide +kernel
theorem dX1_why_80 : decode cX1_why 80 = .ok (.iload_n 2, 1) := by decide +kernel
theorem dX1_why_81 : decode cX1_why 81 = .ok (.iload 5, 2) := by decide +kernel
theorem dX1_why_83 : decode cX1_why 83 = .ok (.invokevirtual 91, 3) := by decide +kernel
theorem dX1_why_86 : decode cX1_why 86 = .ok (.if_icmp .le 7, 3) := by decide +kernel
theorem dX1_why_89 : decode cX1_why 89 = .ok (.iload 6, 2) := by decide +kernel
theorem dX1_why_91 : decode cX1_why 91 = .ok (.istore 5, 2) := by decide +kernel
theorem dX1_why_93 : decode cX1_why 93 = .ok (.iinc 6 1, 3) := by decide +kernel
theorem dX1_why_96 : decode cX1_why 96 = .ok (.goto (-50), 3) := by decide +kernel
theorem dX1_why_99 : decode cX1_why 99 = .ok (.iload 5, 2) := by decide +kernel
theorem dX1_why_101 : decode cX1_why 101 = .ok (.iconst (-1), 1) := by decide +kernel
theorem dX1_why_102 : decode cX1_why 102 = .ok (.if_icmp .ne 6, 3) := by decide +kernel
theorem dX1_why_105 : decode cX1_why 105 = .ok (.ldc 94, 2) := by decide +kernel
theorem dX1_why_107 : decode cX1_why 107 = .ok (.ireturn, 1) := by decide +kernel
theorem dX1_why_108 : decode cX1_why 108 = .ok (.iload_n 3, 1) := by decide +kernel
theorem dX1_why_109 : decode cX1_why 109 = .ok (.ifCond .ne 8, 3) := by decide +kernel
theorem dX1_why_112 : decode cX1_why 112 = .ok (.iload 5, 2) := by decide +kernel
theorem dX1_why_114 : decode cX1_why 114 = .ok (.goto 25, 3) := by decide +kernel
theorem dX1_why_117 : decode cX1_why 117 = .ok (.iload_n 3, 1) := by decide +kernel
theorem dX1_why_118 : decode cX1_why 118 = .ok (.iconst 1, 1) := by decide +kernel
theorem dX1_why_119 : decode cX1_why 119 = .ok (.if_icmp .ne 13, 3) := by decide +kernel
theorem dX1_why_122 : decode cX1_why 122 = .ok (.aload_n 0, 1) := by decide +kernel
theorem dX1_why_123 : decode cX1_why 123 = .ok (.iload_n 2, 1) := by decide +kernel
theorem dX1_why_124 : decode cX1_why 124 = .ok (.iload 5, 2) := by decide +kernel
theorem dX1_why_126 : decode cX1_why 126 = .ok (.invokevirtual 91, 3) := by decide +kernel
theorem dX1_why_129 : decode cX1_why 129 = .ok (.goto 10, 3) := by decide +kernel
theorem dX1_why_132 : decode cX1_why 132 = .ok (.aload_n 0, 1) := by decide +kernel
theorem dX1_why_133 : decode cX1_why 133 = .ok (.iload_n 2, 1) := by decide +kernel
theorem dX1_why_134 : decode cX1_why 134 = .ok (.iload 5, 2) := by decide +kernel
theorem dX1_why_136 : decode cX1_why 136 = .ok (.invokevirtual 84, 3) := by decide +kernel
theorem dX1_why_139 : decode cX1_why 139 = .ok (.ireturn, 1) := by decide +kernel
