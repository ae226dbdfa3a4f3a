theorem dX0_init_0 : decode cX0_init 0 = .ok (.aload_n 0, 1) := by decide +kernel
theorem dX0_init_1 : decode cX0_init 1 = .ok (.invokespecial 3, 3) := by decide +kernel
theorem dX0_init_4 : decode cX0_init 4 = .ok (.aload_n 0, 1) := by decide +kernel
theorem dX0_init_5 : decode cX0_init 5 = .ok (.getstatic 9, 3) := by decide +kernel
theorem dX0_init_8 : decode cX0_init 8 = .ok (.invokevirtual 13, 3) := by decide +kernel
theorem dX0_init_11 : decode cX0_init 11 = .ok (.checkcast 14, 3) := by decide +kernel
theorem dX0_init_14 : decode cX0_init 14 = .ok (.putfield 18, 3) := by decide +kernel
theorem dX0_init_17 : decode cX0_init 17 = .ok (.aload_n 0, 1) := by decide +kernel
theorem dX0_init_18 : decode cX0_init 18 = .ok (.bipush 12, 2) := by decide +kernel
theorem dX0_init_20 : decode cX0_init 20 = .ok (.newarray .int, 2) := by decide +kernel
theorem dX0_init_22 : decode cX0_init 22 = .ok (.putfield 21, 3) := by decide +kernel
theorem dX0_init_25 : decode cX0_init 25 = .ok (.aload_n 0, 1) := by decide +kernel
theorem dX0_init_26 : decode cX0_init 26 = .ok (.iconst 4, 1) := by decide +kernel
theorem dX0_init_27 : decode cX0_init 27 = .ok (.newarray .int, 2) := by decide +kernel
theorem dX0_init_29 : decode cX0_init 29 = .ok (.putfield 24, 3) := by decide +kernel
theorem dX0_init_32 : decode cX0_init 32 = .ok (.aload_n 0, 1) := by decide +kernel
theorem dX0_init_33 : decode cX0_init 33 = .ok (.bipush 12, 2) := by decide +kernel
theorem dX0_init_35 : decode cX0_init 35 = .ok (.newarray .int, 2) := by decide +kernel
theorem dX0_init_37 : decode cX0_init 37 = .ok (.putfield 27, 3) := by decide +kernel
theorem dX0_init_40 : decode cX0_init 40 = .ok (.aload_n 0, 1) := by decide +kernel
theorem dX0_init_41 : decode cX0_init 41 = .ok (.bipush 60, 2) := by decide +kernel
theorem dX0_init_43 : decode cX0_init 43 = .ok (.newarray .int, 2) := by decide +kernel
theorem dX0_init_45 : decode cX0_init 45 = .ok (.putfield 30, 3) := by decide +kernel
theorem dX0_init_48 : decode cX0_init 48 = .ok (.aload_n 0, 1) := by decide +kernel
theorem dX0_init_49 : decode cX0_init 49 = .ok (.bipush 60, 2) := by decide +kernel
theorem dX0_init_51 : decode cX0_init 51 = .ok (.newarray .int, 2) := by decide +kernel
theorem dX0_init_53 : decode cX0_init 53 = .ok (.putfield 33, 3) := by decide +kernel
theorem dX0_init_56 : decode cX0_init 56 = .ok (.aload_n 0, 1) := by decide +kernel
theorem dX0_init_57 : decode cX0_init 57 = .ok (.bipush 60, 2) := by decide +kernel
theorem dX0_init_59 : decode cX0_init 59 = .ok (.newarray .int, 2) := by decide +kernel
theorem dX0_init_61 : decode cX0_init 61 = .ok (.putfield 36, 3) := by decide +kernel
theorem dX0_init_64 : decode cX0_init 64 = .ok (.aload_n 0, 1) := by decide +kernel
theorem dX0_init_65 : decode cX0_init 65 = .ok (.bipush 8, 2) := by decide +kernel
theorem dX0_init_67 : decode cX0_init 67 = .ok (.newarray .int, 2) := by decide +kernel
theorem dX0_init_69 : decode cX0_init 69 = .ok (.putfield 39, 3) := by decide +kernel
theorem dX0_init_72 : decode cX0_init 72 = .ok (.aload_n 0, 1) := by decide +kernel
theorem dX0_init_73 : decode cX0_init 73 = .ok (.bipush 8, 2) := by decide +kernel
theorem dX0_init_75 : decode cX0_init 75 = .ok (.bipush 12, 2) := by decide +kernel
theorem dX0_init_77 : decode cX0_init 77 = .ok (.multianewarray 42 2, 4) := by decide +kernel
theorem dX0_init_81 : decode cX0_init 81 = .ok (.putfield 44, 3) := by decide +kernel
theorem dX0_init_84 : decode cX0_init 84 = .ok (.aload_n 0, 1) := by decide +kernel
theorem dX0_init_85 : decode cX0_init 85 = .ok (.bipush 8, 2) := by decide +kernel
theorem dX0_init_87 : decode cX0_init 87 = .ok (.bipush 12, 2) := by decide +kernel
theorem dX0_init_89 : decode cX0_init 89 = .ok (.multianewarray 42 2, 4) := by decide +kernel
theorem dX0_init_93 : decode cX0_init 93 = .ok (.putfield 47, 3) := by decide +kernel
theorem dX0_init_96 : decode cX0_init 96 = .ok (.aload_n 0, 1) := by decide +kernel
theorem dX0_init_97 : decode cX0_init 97 = .ok (.bipush 12, 2) := by decide +kernel
theorem dX0_init_99 : decode cX0_init 99 = .ok (.newarray .int, 2) := by decide +kernel
theorem dX0_init_101 : decode cX0_init 101 = .ok (.putfield 50, 3) := by decide +kernel
theorem dX0_init_104 : decode cX0_init 104 = .ok (.return_, 1) := by decide +kernel
theorem dX0_thing_0 : decode cX0_thing 0 = .ok (.iload_n 1, 1) := by decide +kernel
theorem dX0_thing_1 : decode cX0_thing 1 = .ok (.ifCond .lt 17, 3) := by decide +kernel
theorem dX0_thing_4 : decode cX0_thing 4 = .ok (.iload_n 1, 1) := by decide +kernel
theorem dX0_thing_5 : decode cX0_thing 5 = .ok (.iconst 4, 1) := by decide +kernel
theorem dX0_thing_6 : decode cX0_thing 6 = .ok (.if_icmp .ge 12, 3) := by decide +kernel
theorem dX0_thing_9 : decode cX0_thing 9 = .ok (.aload_n 0, 1) := by decide +kernel
theorem dX0_thing_10 : decode cX0_thing 10 = .ok (.getfield 53, 3) := by decide +kernel
theorem dX0_thing_13 : decode cX0_thing 13 = .ok (.bipush 12, 2) := by decide +kernel
theorem dX0_thing_15 : decode cX0_thing 15 = .ok (.if_icmp .lt 5, 3) := by decide +kernel
theorem dX0_thing_18 : decode cX0_thing 18 = .ok (.iconst (-1), 1) := by decide +kernel
theorem dX0_thing_19 : decode cX0_thing 19 = .ok (.ireturn, 1) := by decide +kernel
theorem dX0_thing_20 : decode cX0_thing 20 = .ok (.aload_n 0, 1) := by decide +kernel
theorem dX0_thing_21 : decode cX0_thing 21 = .ok (.getfield 53, 3) := by decide +kernel
theorem dX0_thing_24 : decode cX0_thing 24 = .ok (.istore_n 2, 1) := by decide +kernel
theorem dX0_thing_25 : decode cX0_thing 25 = .ok (.aload_n 0, 1) := by decide +kernel
theorem dX0_thing_26 : decode cX0_thing 26 = .ok (.dup, 1) := by decide +kernel
theorem dX0_thing_27 : decode cX0_thing 27 = .ok (.getfield 53, 3) := by decide +kernel
theorem dX0_thing_30 : decode cX0_thing 30 = .ok (.iconst 1, 1) := by decide +kernel
theorem dX0_thing_31 : decode cX0_thing 31 = .ok (.iadd, 1) := by decide +kernel
theorem dX0_thing_32 : decode cX0_thing 32 = .ok (.putfield 53, 3) := by decide +kernel
theorem dX0_thing_35 : decode cX0_thing 35 = .ok (.aload_n 0, 1) := by decide +kernel
theorem dX0_thing_36 : decode cX0_thing 36 = .ok (.getfield 21, 3) := by decide +kernel
theorem dX0_thing_39 : decode cX0_thing 39 = .ok (.iload_n 2, 1) := by decide +kernel
theorem dX0_thing_40 : decode cX0_thing 40 = .ok (.aload_n 0, 1) := by decide +kernel
theorem dX0_thing_41 : decode cX0_thing 41 = .ok (.getfield 57, 3) := by decide +kernel
theorem dX0_thing_44 : decode cX0_thing 44 = .ok (.iastore, 1) := by decide +kernel
theorem dX0_thing_45 : decode cX0_thing 45 = .ok (.aload_n 0, 1) := by decide +kernel
theorem dX0_thing_46 : decode cX0_thing 46 = .ok (.getfield 24, 3) := by decide +kernel
theorem dX0_thing_49 : decode cX0_thing 49 = .ok (.iload_n 1, 1) := by decide +kernel
theorem dX0_thing_50 : decode cX0_thing 50 = .ok (.dup2, 1) := by decide +kernel
theorem dX0_thing_51 : decode cX0_thing 51 = .ok (.iaload, 1) := by decide +kernel
theorem dX0_thing_52 : decode cX0_thing 52 = .ok (.iconst 1, 1) := by decide +kernel
theorem dX0_thing_53 : decode cX0_thing 53 = .ok (.iload_n 2, 1) := by decide +kernel
theorem dX0_thing_54 : decode cX0_thing 54 = .ok (.ishl, 1) := by decide +kernel
theorem dX0_thing_55 : decode cX0_thing 55 = .ok (.ior, 1) := by decide +kernel
theorem dX0_thing_56 : decode cX0_thing 56 = .ok (.iastore, 1) := by decide +kernel
theorem dX0_thing_57 : decode cX0_thing 57 = .ok (.aload_n 0, 1) := by decide +kernel
theorem dX0_thing_58 : decode cX0_thing 58 = .ok (.dup, 1) := by decide +kernel
theorem dX0_thing_59 : decode cX0_thing 59 = .ok (.getfield 60, 3) := by decide +kernel
theorem dX0_thing_62 : decode cX0_thing 62 = .ok (.iconst 1, 1) := by decide +kernel
theorem dX0_thing_63 : decode cX0_thing 63 = .ok (.iload_n 2, 1) := by decide +kernel
theorem dX0_thing_64 : decode cX0_thing 64 = .ok (.ishl, 1) := by decide +kernel
theorem dX0_thing_65 : decode cX0_thing 65 = .ok (.ior, 1) := by decide +kernel
theorem dX0_thing_66 : decode cX0_thing 66 = .ok (.putfield 60, 3) := by decide +kernel
theorem dX0_thing_69 : decode cX0_thing 69 = .ok (.iload_n 2, 1) := by decide +kernel
theorem dX0_thing_70 : decode cX0_thing 70 = .ok (.ireturn, 1) := by decide +kernel
theorem dX0_stock_0 : decode cX0_stock 0 = .ok (.aload_n 0, 1) := by decide +kernel
theorem dX0_stock_1 : decode cX0_stock 1 = .ok (.iload_n 1, 1) := by decide +kernel
theorem dX0_stock_2 : decode cX0_stock 2 = .ok (.invokevirtual 63, 3) := by decide +kernel
theorem dX0_stock_5 : decode cX0_stock 5 = .ok (.ifCond .eq 15, 3) := by decide +kernel
theorem dX0_stock_8 : decode cX0_stock 8 = .ok (.aload_n 0, 1) := by decide +kernel
theorem dX0_stock_9 : decode cX0_stock 9 = .ok (.getfield 60, 3) := by decide +kernel
theorem dX0_stock_12 : decode cX0_stock 12 = .ok (.iload_n 1, 1) := by decide +kernel
theorem dX0_stock_13 : decode cX0_stock 13 = .ok (.invokestatic 67, 3) := by decide +kernel
theorem dX0_stock_16 : decode cX0_stock 16 = .ok (.iload_n 2, 1) := by decide +kernel
theorem dX0_stock_17 : decode cX0_stock 17 = .ok (.if_icmp .ne 5, 3) := by decide +kernel
theorem dX0_stock_20 : decode cX0_stock 20 = .ok (.iconst 0, 1) := by decide +kernel
theorem dX0_stock_21 : decode cX0_stock 21 = .ok (.ireturn, 1) := by decide +kernel
theorem dX0_stock_22 : decode cX0_stock 22 = .ok (.aload_n 0, 1) := by decide +kernel
theorem dX0_stock_23 : decode cX0_stock 23 = .ok (.dup, 1) := by decide +kernel
theorem dX0_stock_24 : decode cX0_stock 24 = .ok (.getfield 60, 3) := by decide +kernel
theorem dX0_stock_27 : decode cX0_stock 27 = .ok (.iconst 1, 1) := by decide +kernel
theorem dX0_stock_28 : decode cX0_stock 28 = .ok (.iload_n 1, 1) := by decide +kernel
theorem dX0_stock_29 : decode cX0_stock 29 = .ok (.ishl, 1) := by decide +kernel
theorem dX0_stock_30 : decode cX0_stock 30 = .ok (.ixor, 1) := by decide +kernel
theorem dX0_stock_31 : decode cX0_stock 31 = .ok (.putfield 60, 3) := by decide +kernel
theorem dX0_stock_34 : decode cX0_stock 34 = .ok (.iconst 1, 1) := by decide +kernel
theorem dX0_stock_35 : decode cX0_stock 35 = .ok (.ireturn, 1) := by decide +kernel
theorem dX0_set_0 : decode cX0_set 0 = .ok (.iload_n 1, 1) := by decide +kernel
theorem dX0_set_1 : decode cX0_set 1 = .ok (.ifCond .lt 22, 3) := by decide +kernel
theorem dX0_set_4 : decode cX0_set 4 = .ok (.iload_n 1, 1) := by decide +kernel
theorem dX0_set_5 : decode cX0_set 5 = .ok (.iconst 4, 1) := by decide +kernel
theorem dX0_set_6 : decode cX0_set 6 = .ok (.if_icmp .ge 17, 3) := by decide +kernel
theorem dX0_set_9 : decode cX0_set 9 = .ok (.iload_n 2, 1) := by decide +kernel
theorem dX0_set_10 : decode cX0_set 10 = .ok (.iconst 1, 1) := by decide +kernel
theorem dX0_set_11 : decode cX0_set 11 = .ok (.if_icmp .lt 12, 3) := by decide +kernel
theorem dX0_set_14 : decode cX0_set 14 = .ok (.iload_n 2, 1) := by decide +kernel
theorem dX0_set_15 : decode cX0_set 15 = .ok (.getstatic 71, 3) := by decide +kernel
theorem dX0_set_18 : decode cX0_set 18 = .ok (.iload_n 1, 1) := by decide +kernel
theorem dX0_set_19 : decode cX0_set 19 = .ok (.iaload, 1) := by decide +kernel
theorem dX0_set_20 : decode cX0_set 20 = .ok (.if_icmp .le 5, 3) := by decide +kernel
theorem dX0_set_23 : decode cX0_set 23 = .ok (.iconst 0, 1) := by decide +kernel
theorem dX0_set_24 : decode cX0_set 24 = .ok (.ireturn, 1) := by decide +kernel
theorem dX0_set_25 : decode cX0_set 25 = .ok (.aload_n 0, 1) := by decide +kernel
theorem dX0_set_26 : decode cX0_set 26 = .ok (.getfield 18, 3) := by decide +kernel
theorem dX0_set_29 : decode cX0_set 29 = .ok (.iload_n 1, 1) := by decide +kernel
theorem dX0_set_30 : decode cX0_set 30 = .ok (.iload_n 2, 1) := by decide +kernel
theorem dX0_set_31 : decode cX0_set 31 = .ok (.iastore, 1) := by decide +kernel
theorem dX0_set_32 : decode cX0_set 32 = .ok (.iconst 1, 1) := by decide +kernel
theorem dX0_set_33 : decode cX0_set 33 = .ok (.ireturn, 1) := by decide +kernel
theorem dX0_apart_0 : decode cX0_apart 0 = .ok (.aload_n 0, 1) := by decide +kernel
theorem dX0_apart_1 : decode cX0_apart 1 = .ok (.iload_n 1, 1) := by decide +kernel
theorem dX0_apart_2 : decode cX0_apart 2 = .ok (.iload_n 2, 1) := by decide +kernel
theorem dX0_apart_3 : decode cX0_apart 3 = .ok (.invokevirtual 74, 3) := by decide +kernel
theorem dX0_apart_6 : decode cX0_apart 6 = .ok (.ifCond .eq 17, 3) := by decide +kernel
theorem dX0_apart_9 : decode cX0_apart 9 = .ok (.aload_n 0, 1) := by decide +kernel
theorem dX0_apart_10 : decode cX0_apart 10 = .ok (.getfield 27, 3) := by decide +kernel
theorem dX0_apart_13 : decode cX0_apart 13 = .ok (.iload_n 1, 1) := by decide +kernel
theorem dX0_apart_14 : decode cX0_apart 14 = .ok (.iaload, 1) := by decide +kernel
theorem dX0_apart_15 : decode cX0_apart 15 = .ok (.iload_n 2, 1) := by decide +kernel
theorem dX0_apart_16 : decode cX0_apart 16 = .ok (.invokestatic 67, 3) := by decide +kernel
theorem dX0_apart_19 : decode cX0_apart 19 = .ok (.iload_n 3, 1) := by decide +kernel
theorem dX0_apart_20 : decode cX0_apart 20 = .ok (.if_icmp .ne 5, 3) := by decide +kernel
theorem dX0_apart_23 : decode cX0_apart 23 = .ok (.iconst 0, 1) := by decide +kernel
theorem dX0_apart_24 : decode cX0_apart 24 = .ok (.ireturn, 1) := by decide +kernel
theorem dX0_apart_25 : decode cX0_apart 25 = .ok (.aload_n 0, 1) := by decide +kernel
theorem dX0_apart_26 : decode cX0_apart 26 = .ok (.getfield 27, 3) := by decide +kernel
theorem dX0_apart_29 : decode cX0_apart 29 = .ok (.iload_n 1, 1) := by decide +kernel
theorem dX0_apart_30 : decode cX0_apart 30 = .ok (.dup2, 1) := by decide +kernel
theorem dX0_apart_31 : decode cX0_apart 31 = .ok (.iaload, 1) := by decide +kernel
theorem dX0_apart_32 : decode cX0_apart 32 = .ok (.iconst 1, 1) := by decide +kernel
theorem dX0_apart_33 : decode cX0_apart 33 = .ok (.iload_n 2, 1) := by decide +kernel
theorem dX0_apart_34 : decode cX0_apart 34 = .ok (.ishl, 1) := by decide +kernel
theorem dX0_apart_35 : decode cX0_apart 35 = .ok (.ixor, 1) := by decide +kernel
theorem dX0_apart_36 : decode cX0_apart 36 = .ok (.iastore, 1) := by decide +kernel
theorem dX0_apart_37 : decode cX0_apart 37 = .ok (.aload_n 0, 1) := by decide +kernel
theorem dX0_apart_38 : decode cX0_apart 38 = .ok (.getfield 27, 3) := by decide +kernel
theorem dX0_apart_41 : decode cX0_apart 41 = .ok (.iload_n 2, 1) := by decide +kernel
theorem dX0_apart_42 : decode cX0_apart 42 = .ok (.dup2, 1) := by decide +kernel
theorem dX0_apart_43 : decode cX0_apart 43 = .ok (.iaload, 1) := by decide +kernel
theorem dX0_apart_44 : decode cX0_apart 44 = .ok (.iconst 1, 1) := by decide +kernel
theorem dX0_apart_45 : decode cX0_apart 45 = .ok (.iload_n 1, 1) := by decide +kernel
theorem dX0_apart_46 : decode cX0_apart 46 = .ok (.ishl, 1) := by decide +kernel
theorem dX0_apart_47 : decode cX0_apart 47 = .ok (.ixor, 1) := by decide +kernel
theorem dX0_apart_48 : decode cX0_apart 48 = .ok (.iastore, 1) := by decide +kernel
theorem dX0_apart_49 : decode cX0_apart 49 = .ok (.iconst 1, 1) := by decide +kernel
theorem dX0_apart_50 : decode cX0_apart 50 = .ok (.ireturn, 1) := by decide +kernel
theorem dX0_basket_0 : decode cX0_basket 0 = .ok (.iload_n 1, 1) := by decide +kernel
theorem dX0_basket_1 : decode cX0_basket 1 = .ok (.invokestatic 77, 3) := by decide +kernel
theorem dX0_basket_4 : decode cX0_basket 4 = .ok (.ifCond .eq 24, 3) := by decide +kernel
theorem dX0_basket_7 : decode cX0_basket 7 = .ok (.aload_n 0, 1) := by decide +kernel
theorem dX0_basket_8 : decode cX0_basket 8 = .ok (.iload_n 2, 1) := by decide +kernel
theorem dX0_basket_9 : decode cX0_basket 9 = .ok (.invokevirtual 80, 3) := by decide +kernel
theorem dX0_basket_12 : decode cX0_basket 12 = .ok (.ifCond .eq 16, 3) := by decide +kernel
theorem dX0_basket_15 : decode cX0_basket 15 = .ok (.iload_n 2, 1) := by decide +kernel
theorem dX0_basket_16 : decode cX0_basket 16 = .ok (.ifCond .eq 12, 3) := by decide +kernel
theorem dX0_basket_19 : decode cX0_basket 19 = .ok (.aload_n 0, 1) := by decide +kernel
theorem dX0_basket_20 : decode cX0_basket 20 = .ok (.getfield 83, 3) := by decide +kernel
theorem dX0_basket_23 : decode cX0_basket 23 = .ok (.bipush 60, 2) := by decide +kernel
theorem dX0_basket_25 : decode cX0_basket 25 = .ok (.if_icmp .lt 5, 3) := by decide +kernel
theorem dX0_basket_28 : decode cX0_basket 28 = .ok (.iconst (-1), 1) := by decide +kernel
theorem dX0_basket_29 : decode cX0_basket 29 = .ok (.ireturn, 1) := by decide +kernel
theorem dX0_basket_30 : decode cX0_basket 30 = .ok (.aload_n 0, 1) := by decide +kernel
theorem dX0_basket_31 : decode cX0_basket 31 = .ok (.getfield 83, 3) := by decide +kernel
theorem dX0_basket_34 : decode cX0_basket 34 = .ok (.istore_n 3, 1) := by decide +kernel
theorem dX0_basket_35 : decode cX0_basket 35 = .ok (.aload_n 0, 1) := by decide +kernel
theorem dX0_basket_36 : decode cX0_basket 36 = .ok (.dup, 1) := by decide +kernel
theorem dX0_basket_37 : decode cX0_basket 37 = .ok (.getfield 83, 3) := by decide +kernel
theorem dX0_basket_40 : decode cX0_basket 40 = .ok (.iconst 1, 1) := by decide +kernel
theorem dX0_basket_41 : decode cX0_basket 41 = .ok (.iadd, 1) := by decide +kernel
theorem dX0_basket_42 : decode cX0_basket 42 = .ok (.putfield 83, 3) := by decide +kernel
theorem dX0_basket_45 : decode cX0_basket 45 = .ok (.aload_n 0, 1) := by decide +kernel
theorem dX0_basket_46 : decode cX0_basket 46 = .ok (.getfield 30, 3) := by decide +kernel
theorem dX0_basket_49 : decode cX0_basket 49 = .ok (.iload_n 3, 1) := by decide +kernel
theorem dX0_basket_50 : decode cX0_basket 50 = .ok (.iload_n 1, 1) := by decide +kernel
theorem dX0_basket_51 : decode cX0_basket 51 = .ok (.iastore, 1) := by decide +kernel
theorem dX0_basket_52 : decode cX0_basket 52 = .ok (.aload_n 0, 1) := by decide +kernel
theorem dX0_basket_53 : decode cX0_basket 53 = .ok (.getfield 33, 3) := by decide +kernel
theorem dX0_basket_56 : decode cX0_basket 56 = .ok (.iload_n 3, 1) := by decide +kernel
theorem dX0_basket_57 : decode cX0_basket 57 = .ok (.aload_n 0, 1) := by decide +kernel
theorem dX0_basket_58 : decode cX0_basket 58 = .ok (.getfield 57, 3) := by decide +kernel
theorem dX0_basket_61 : decode cX0_basket 61 = .ok (.iastore, 1) := by decide +kernel
theorem dX0_basket_62 : decode cX0_basket 62 = .ok (.aload_n 0, 1) := by decide +kernel
theorem dX0_basket_63 : decode cX0_basket 63 = .ok (.getfield 36, 3) := by decide +kernel
theorem dX0_basket_66 : decode cX0_basket 66 = .ok (.iload_n 3, 1) := by decide +kernel
theorem dX0_basket_67 : decode cX0_basket 67 = .ok (.iload_n 2, 1) := by decide +kernel
theorem dX0_basket_68 : decode cX0_basket 68 = .ok (.iastore, 1) := by decide +kernel
theorem dX0_basket_69 : decode cX0_basket 69 = .ok (.aload_n 0, 1) := by decide +kernel
theorem dX0_basket_70 : decode cX0_basket 70 = .ok (.iload_n 1, 1) := by decide +kernel
theorem dX0_basket_71 : decode cX0_basket 71 = .ok (.iload_n 2, 1) := by decide +kernel
theorem dX0_basket_72 : decode cX0_basket 72 = .ok (.invokevirtual 86, 3) := by decide +kernel
theorem dX0_basket_75 : decode cX0_basket 75 = .ok (.iload_n 3, 1) := by decide +kernel
theorem dX0_basket_76 : decode cX0_basket 76 = .ok (.ireturn, 1) := by decide +kernel
theorem dX0_drop_0 : decode cX0_drop 0 = .ok (.aload_n 0, 1) := by decide +kernel
theorem dX0_drop_1 : decode cX0_drop 1 = .ok (.iload_n 1, 1) := by decide +kernel
theorem dX0_drop_2 : decode cX0_drop 2 = .ok (.invokevirtual 90, 3) := by decide +kernel
theorem dX0_drop_5 : decode cX0_drop 5 = .ok (.ifCond .ne 5, 3) := by decide +kernel
theorem dX0_drop_8 : decode cX0_drop 8 = .ok (.iconst 0, 1) := by decide +kernel
theorem dX0_drop_9 : decode cX0_drop 9 = .ok (.ireturn, 1) := by decide +kernel
theorem dX0_drop_10 : decode cX0_drop 10 = .ok (.aload_n 0, 1) := by decide +kernel
theorem dX0_drop_11 : decode cX0_drop 11 = .ok (.iload_n 1, 1) := by decide +kernel
theorem dX0_drop_12 : decode cX0_drop 12 = .ok (.invokevirtual 93, 3) := by decide +kernel
theorem dX0_drop_15 : decode cX0_drop 15 = .ok (.iconst 1, 1) := by decide +kernel
theorem dX0_drop_16 : decode cX0_drop 16 = .ok (.ireturn, 1) := by decide +kernel
theorem dX0_forget_0 : decode cX0_forget 0 = .ok (.iload_n 1, 1) := by decide +kernel
theorem dX0_forget_1 : decode cX0_forget 1 = .ok (.invokestatic 77, 3) := by decide +kernel
theorem dX0_forget_4 : decode cX0_forget 4 = .ok (.ifCond .ne 5, 3) := by decide +kernel
theorem dX0_forget_7 : decode cX0_forget 7 = .ok (.iconst (-1), 1) := by decide +kernel
theorem dX0_forget_8 : decode cX0_forget 8 = .ok (.ireturn, 1) := by decide +kernel
theorem dX0_forget_9 : decode cX0_forget 9 = .ok (.aload_n 0, 1) := by decide +kernel
theorem dX0_forget_10 : decode cX0_forget 10 = .ok (.getfield 83, 3) := by decide +kernel
theorem dX0_forget_13 : decode cX0_forget 13 = .ok (.istore_n 2, 1) := by decide +kernel
theorem dX0_forget_14 : decode cX0_forget 14 = .ok (.iload_n 2, 1) := by decide +kernel
theorem dX0_forget_15 : decode cX0_forget 15 = .ok (.iconst 1, 1) := by decide +kernel
theorem dX0_forget_16 : decode cX0_forget 16 = .ok (.isub, 1) := by decide +kernel
theorem dX0_forget_17 : decode cX0_forget 17 = .ok (.istore_n 3, 1) := by decide +kernel
theorem dX0_forget_18 : decode cX0_forget 18 = .ok (.iload_n 3, 1) := by decide +kernel
theorem dX0_forget_19 : decode cX0_forget 19 = .ok (.ifCond .lt 24, 3) := by decide +kernel
theorem dX0_forget_22 : decode cX0_forget 22 = .ok (.aload_n 0, 1) := by decide +kernel
theorem dX0_forget_23 : decode cX0_forget 23 = .ok (.getfield 30, 3) := by decide +kernel
theorem dX0_forget_26 : decode cX0_forget 26 = .ok (.iload_n 3, 1) := by decide +kernel
theorem dX0_forget_27 : decode cX0_forget 27 = .ok (.iaload, 1) := by decide +kernel
theorem dX0_forget_28 : decode cX0_forget 28 = .ok (.iload_n 1, 1) := by decide +kernel
theorem dX0_forget_29 : decode cX0_forget 29 = .ok (.if_icmp .ne 8, 3) := by decide +kernel
theorem dX0_forget_32 : decode cX0_forget 32 = .ok (.aload_n 0, 1) := by decide +kernel
theorem dX0_forget_33 : decode cX0_forget 33 = .ok (.iload_n 3, 1) := by decide +kernel
theorem dX0_forget_34 : decode cX0_forget 34 = .ok (.invokevirtual 93, 3) := by decide +kernel
theorem dX0_forget_37 : decode cX0_forget 37 = .ok (.iinc 3 (-1), 3) := by decide +kernel
theorem dX0_forget_40 : decode cX0_forget 40 = .ok (.goto (-22), 3) := by decide +kernel
theorem dX0_forget_43 : decode cX0_forget 43 = .ok (.aload_n 0, 1) := by decide +kernel
theorem dX0_forget_44 : decode cX0_forget 44 = .ok (.getfield 39, 3) := by decide +kernel
theorem dX0_forget_47 : decode cX0_forget 47 = .ok (.iload_n 1, 1) := by decide +kernel
theorem dX0_forget_48 : decode cX0_forget 48 = .ok (.iconst 0, 1) := by decide +kernel
theorem dX0_forget_49 : decode cX0_forget 49 = .ok (.iastore, 1) := by decide +kernel
theorem dX0_forget_50 : decode cX0_forget 50 = .ok (.aload_n 0, 1) := by decide +kernel
theorem dX0_forget_51 : decode cX0_forget 51 = .ok (.iload_n 1, 1) := by decide +kernel
theorem dX0_forget_52 : decode cX0_forget 52 = .ok (.aload_n 0, 1) := by decide +kernel
theorem dX0_forget_53 : decode cX0_forget 53 = .ok (.invokevirtual 97, 3) := by decide +kernel
theorem dX0_forget_56 : decode cX0_forget 56 = .ok (.invokevirtual 86, 3) := by decide +kernel
theorem dX0_forget_59 : decode cX0_forget 59 = .ok (.iload_n 2, 1) := by decide +kernel
theorem dX0_forget_60 : decode cX0_forget 60 = .ok (.aload_n 0, 1) := by decide +kernel
theorem dX0_forget_61 : decode cX0_forget 61 = .ok (.getfield 83, 3) := by decide +kernel
theorem dX0_forget_64 : decode cX0_forget 64 = .ok (.isub, 1) := by decide +kernel
theorem dX0_forget_65 : decode cX0_forget 65 = .ok (.ireturn, 1) := by decide +kernel
theorem dX0_day_0 : decode cX0_day 0 = .ok (.aload_n 0, 1) := by decide +kernel
theorem dX0_day_1 : decode cX0_day 1 = .ok (.getfield 57, 3) := by decide +kernel
theorem dX0_day_4 : decode cX0_day 4 = .ok (.sipush 9999, 3) := by decide +kernel
theorem dX0_day_7 : decode cX0_day 7 = .ok (.if_icmp .lt 5, 3) := by decide +kernel
theorem dX0_day_10 : decode cX0_day 10 = .ok (.iconst (-1), 1) := by decide +kernel
theorem dX0_day_11 : decode cX0_day 11 = .ok (.ireturn, 1) := by decide +kernel
theorem dX0_day_12 : decode cX0_day 12 = .ok (.aload_n 0, 1) := by decide +kernel
theorem dX0_day_13 : decode cX0_day 13 = .ok (.dup, 1) := by decide +kernel
theorem dX0_day_14 : decode cX0_day 14 = .ok (.getfield 57, 3) := by decide +kernel
theorem dX0_day_17 : decode cX0_day 17 = .ok (.iconst 1, 1) := by decide +kernel
theorem dX0_day_18 : decode cX0_day 18 = .ok (.iadd, 1) := by decide +kernel
theorem dX0_day_19 : decode cX0_day 19 = .ok (.putfield 57, 3) := by decide +kernel
theorem dX0_day_22 : decode cX0_day 22 = .ok (.aload_n 0, 1) := by decide +kernel
theorem dX0_day_23 : decode cX0_day 23 = .ok (.invokevirtual 101, 3) := by decide +kernel
theorem dX0_day_26 : decode cX0_day 26 = .ok (.aload_n 0, 1) := by decide +kernel
theorem dX0_day_27 : decode cX0_day 27 = .ok (.getfield 57, 3) := by decide +kernel
theorem dX0_day_30 : decode cX0_day 30 = .ok (.ireturn, 1) := by decide +kernel
theorem dX0_look_0 : decode cX0_look 0 = .ok (.iload_n 1, 1) := by decide +kernel
theorem dX0_look_1 : decode cX0_look 1 = .ok (.tableswitch 104 0 8 #[51, 56, 61, 66, 73, 80, 87, 94, 99], 51) := by decide +kernel
theorem dX0_look_52 : decode cX0_look 52 = .ok (.aload_n 0, 1) := by decide +kernel
theorem dX0_look_53 : decode cX0_look 53 = .ok (.getfield 57, 3) := by decide +kernel
theorem dX0_look_56 : decode cX0_look 56 = .ok (.ireturn, 1) := by decide +kernel
theorem dX0_look_57 : decode cX0_look 57 = .ok (.aload_n 0, 1) := by decide +kernel
theorem dX0_look_58 : decode cX0_look 58 = .ok (.getfield 53, 3) := by decide +kernel
theorem dX0_look_61 : decode cX0_look 61 = .ok (.ireturn, 1) := by decide +kernel
theorem dX0_look_62 : decode cX0_look 62 = .ok (.aload_n 0, 1) := by decide +kernel
theorem dX0_look_63 : decode cX0_look 63 = .ok (.getfield 83, 3) := by decide +kernel
theorem dX0_look_66 : decode cX0_look 66 = .ok (.ireturn, 1) := by decide +kernel
theorem dX0_look_67 : decode cX0_look 67 = .ok (.aload_n 0, 1) := by decide +kernel
theorem dX0_look_68 : decode cX0_look 68 = .ok (.getfield 18, 3) := by decide +kernel
theorem dX0_look_71 : decode cX0_look 71 = .ok (.iconst 0, 1) := by decide +kernel
theorem dX0_look_72 : decode cX0_look 72 = .ok (.iaload, 1) := by decide +kernel
theorem dX0_look_73 : decode cX0_look 73 = .ok (.ireturn, 1) := by decide +kernel
theorem dX0_look_74 : decode cX0_look 74 = .ok (.aload_n 0, 1) := by decide +kernel
theorem dX0_look_75 : decode cX0_look 75 = .ok (.getfield 18, 3) := by decide +kernel
theorem dX0_look_78 : decode cX0_look 78 = .ok (.iconst 1, 1) := by decide +kernel
theorem dX0_look_79 : decode cX0_look 79 = .ok (.iaload, 1) := by decide +kernel
theorem dX0_look_80 : decode cX0_look 80 = .ok (.ireturn, 1) := by decide +kernel
theorem dX0_look_81 : decode cX0_look 81 = .ok (.aload_n 0, 1) := by decide +kernel
theorem dX0_look_82 : decode cX0_look 82 = .ok (.getfield 18, 3) := by decide +kernel
theorem dX0_look_85 : decode cX0_look 85 = .ok (.iconst 2, 1) := by decide +kernel
theorem dX0_look_86 : decode cX0_look 86 = .ok (.iaload, 1) := by decide +kernel
theorem dX0_look_87 : decode cX0_look 87 = .ok (.ireturn, 1) := by decide +kernel
theorem dX0_look_88 : decode cX0_look 88 = .ok (.aload_n 0, 1) := by decide +kernel
theorem dX0_look_89 : decode cX0_look 89 = .ok (.getfield 18, 3) := by decide +kernel
theorem dX0_look_92 : decode cX0_look 92 = .ok (.iconst 3, 1) := by decide +kernel
theorem dX0_look_93 : decode cX0_look 93 = .ok (.iaload, 1) := by decide +kernel
theorem dX0_look_94 : decode cX0_look 94 = .ok (.ireturn, 1) := by decide +kernel
theorem dX0_look_95 : decode cX0_look 95 = .ok (.aload_n 0, 1) := by decide +kernel
theorem dX0_look_96 : decode cX0_look 96 = .ok (.getfield 60, 3) := by decide +kernel
theorem dX0_look_99 : decode cX0_look 99 = .ok (.ireturn, 1) := by decide +kernel
theorem dX0_look_100 : decode cX0_look 100 = .ok (.aload_n 0, 1) := by decide +kernel
theorem dX0_look_101 : decode cX0_look 101 = .ok (.invokevirtual 104, 3) := by decide +kernel
theorem dX0_look_104 : decode cX0_look 104 = .ok (.ireturn, 1) := by decide +kernel
theorem dX0_look_105 : decode cX0_look 105 = .ok (.iconst (-1), 1) := by decide +kernel
theorem dX0_look_106 : decode cX0_look 106 = .ok (.ireturn, 1) := by decide +kernel
theorem dX0_of_0 : decode cX0_of 0 = .ok (.aload_n 0, 1) := by decide +kernel
theorem dX0_of_1 : decode cX0_of 1 = .ok (.iload_n 1, 1) := by decide +kernel
theorem dX0_of_2 : decode cX0_of 2 = .ok (.invokevirtual 90, 3) := by decide +kernel
theorem dX0_of_5 : decode cX0_of 5 = .ok (.ifCond .ne 5, 3) := by decide +kernel
theorem dX0_of_8 : decode cX0_of 8 = .ok (.iconst (-1), 1) := by decide +kernel
theorem dX0_of_9 : decode cX0_of 9 = .ok (.ireturn, 1) := by decide +kernel
theorem dX0_of_10 : decode cX0_of 10 = .ok (.iload_n 2, 1) := by decide +kernel
theorem dX0_of_11 : decode cX0_of 11 = .ok (.tableswitch 46 0 2 #[25, 32, 39], 25) := by decide +kernel
theorem dX0_of_36 : decode cX0_of 36 = .ok (.aload_n 0, 1) := by decide +kernel
theorem dX0_of_37 : decode cX0_of 37 = .ok (.getfield 30, 3) := by decide +kernel
theorem dX0_of_40 : decode cX0_of 40 = .ok (.iload_n 1, 1) := by decide +kernel
theorem dX0_of_41 : decode cX0_of 41 = .ok (.iaload, 1) := by decide +kernel
theorem dX0_of_42 : decode cX0_of 42 = .ok (.ireturn, 1) := by decide +kernel
theorem dX0_of_43 : decode cX0_of 43 = .ok (.aload_n 0, 1) := by decide +kernel
theorem dX0_of_44 : decode cX0_of 44 = .ok (.getfield 33, 3) := by decide +kernel
theorem dX0_of_47 : decode cX0_of 47 = .ok (.iload_n 1, 1) := by decide +kernel
theorem dX0_of_48 : decode cX0_of 48 = .ok (.iaload, 1) := by decide +kernel
theorem dX0_of_49 : decode cX0_of 49 = .ok (.ireturn, 1) := by decide +kernel
theorem dX0_of_50 : decode cX0_of 50 = .ok (.aload_n 0, 1) := by decide +kernel
theorem dX0_of_51 : decode cX0_of 51 = .ok (.getfield 36, 3) := by decide +kernel
theorem dX0_of_54 : decode cX0_of 54 = .ok (.iload_n 1, 1) := by decide +kernel
theorem dX0_of_55 : decode cX0_of 55 = .ok (.iaload, 1) := by decide +kernel
theorem dX0_of_56 : decode cX0_of 56 = .ok (.ireturn, 1) := by decide +kernel
theorem dX0_of_57 : decode cX0_of 57 = .ok (.iconst (-1), 1) := by decide +kernel
theorem dX0_of_58 : decode cX0_of 58 = .ok (.ireturn, 1) := by decide +kernel
theorem dX0_count_0 : decode cX0_count 0 = .ok (.aload_n 0, 1) := by decide +kernel
theorem dX0_count_1 : decode cX0_count 1 = .ok (.iload_n 1, 1) := by decide +kernel
theorem dX0_count_2 : decode cX0_count 2 = .ok (.invokevirtual 63, 3) := by decide +kernel
theorem dX0_count_5 : decode cX0_count 5 = .ok (.ifCond .eq 11, 3) := by decide +kernel
theorem dX0_count_8 : decode cX0_count 8 = .ok (.aload_n 0, 1) := by decide +kernel
theorem dX0_count_9 : decode cX0_count 9 = .ok (.iload_n 2, 1) := by decide +kernel
theorem dX0_count_10 : decode cX0_count 10 = .ok (.invokevirtual 63, 3) := by decide +kernel
theorem dX0_count_13 : decode cX0_count 13 = .ok (.ifCond .ne 5, 3) := by decide +kernel
theorem dX0_count_16 : decode cX0_count 16 = .ok (.iconst (-1), 1) := by decide +kernel
theorem dX0_count_17 : decode cX0_count 17 = .ok (.ireturn, 1) := by decide +kernel
theorem dX0_count_18 : decode cX0_count 18 = .ok (.iload_n 3, 1) := by decide +kernel
theorem dX0_count_19 : decode cX0_count 19 = .ok (.lookupswitch 39 #[(0, 25), (1, 32)], 25) := by decide +kernel
theorem dX0_count_44 : decode cX0_count 44 = .ok (.aload_n 0, 1) := by decide +kernel
theorem dX0_count_45 : decode cX0_count 45 = .ok (.iload_n 1, 1) := by decide +kernel
theorem dX0_count_46 : decode cX0_count 46 = .ok (.iload_n 2, 1) := by decide +kernel
theorem dX0_count_47 : decode cX0_count 47 = .ok (.invokevirtual 107, 3) := by decide +kernel
theorem dX0_count_50 : decode cX0_count 50 = .ok (.ireturn, 1) := by decide +kernel
theorem dX0_count_51 : decode cX0_count 51 = .ok (.aload_n 0, 1) := by decide +kernel
theorem dX0_count_52 : decode cX0_count 52 = .ok (.iload_n 1, 1) := by decide +kernel
theorem dX0_count_53 : decode cX0_count 53 = .ok (.iload_n 2, 1) := by decide +kernel
theorem dX0_count_54 : decode cX0_count 54 = .ok (.invokevirtual 111, 3) := by decide +kernel
theorem dX0_count_57 : decode cX0_count 57 = .ok (.ireturn, 1) := by decide +kernel
theorem dX0_count_58 : decode cX0_count 58 = .ok (.iconst (-1), 1) := by decide +kernel
theorem dX0_count_59 : decode cX0_count 59 = .ok (.ireturn, 1) := by decide +kernel
theorem dX0_kin_0 : decode cX0_kin 0 = .ok (.aload_n 0, 1) := by decide +kernel
theorem dX0_kin_1 : decode cX0_kin 1 = .ok (.iload_n 1, 1) := by decide +kernel
theorem dX0_kin_2 : decode cX0_kin 2 = .ok (.iload_n 2, 1) := by decide +kernel
theorem dX0_kin_3 : decode cX0_kin 3 = .ok (.invokevirtual 74, 3) := by decide +kernel
theorem dX0_kin_6 : decode cX0_kin 6 = .ok (.ifCond .eq 12, 3) := by decide +kernel
theorem dX0_kin_9 : decode cX0_kin 9 = .ok (.aload_n 0, 1) := by decide +kernel
theorem dX0_kin_10 : decode cX0_kin 10 = .ok (.iload_n 1, 1) := by decide +kernel
theorem dX0_kin_11 : decode cX0_kin 11 = .ok (.iload_n 2, 1) := by decide +kernel
theorem dX0_kin_12 : decode cX0_kin 12 = .ok (.invokevirtual 114, 3) := by decide +kernel
theorem dX0_kin_15 : decode cX0_kin 15 = .ok (.goto 5, 3) := by decide +kernel
theorem dX0_kin_18 : decode cX0_kin 18 = .ok (.ldc 117, 2) := by decide +kernel
theorem dX0_kin_20 : decode cX0_kin 20 = .ok (.ireturn, 1) := by decide +kernel
theorem dX0_near_0 : decode cX0_near 0 = .ok (.aload_n 0, 1) := by decide +kernel
theorem dX0_near_1 : decode cX0_near 1 = .ok (.iload_n 1, 1) := by decide +kernel
theorem dX0_near_2 : decode cX0_near 2 = .ok (.invokevirtual 63, 3) := by decide +kernel
theorem dX0_near_5 : decode cX0_near 5 = .ok (.ifCond .eq 17, 3) := by decide +kernel
theorem dX0_near_8 : decode cX0_near 8 = .ok (.iload_n 2, 1) := by decide +kernel
theorem dX0_near_9 : decode cX0_near 9 = .ok (.ifCond .lt 13, 3) := by decide +kernel
theorem dX0_near_12 : decode cX0_near 12 = .ok (.iload_n 2, 1) := by decide +kernel
theorem dX0_near_13 : decode cX0_near 13 = .ok (.aload_n 0, 1) := by decide +kernel
theorem dX0_near_14 : decode cX0_near 14 = .ok (.getfield 53, 3) := by decide +kernel
theorem dX0_near_17 : decode cX0_near 17 = .ok (.iconst 1, 1) := by decide +kernel
theorem dX0_near_18 : decode cX0_near 18 = .ok (.isub, 1) := by decide +kernel
theorem dX0_near_19 : decode cX0_near 19 = .ok (.if_icmp .lt 5, 3) := by decide +kernel
theorem dX0_near_22 : decode cX0_near 22 = .ok (.iconst (-1), 1) := by decide +kernel
theorem dX0_near_23 : decode cX0_near 23 = .ok (.ireturn, 1) := by decide +kernel
theorem dX0_near_24 : decode cX0_near 24 = .ok (.aload_n 0, 1) := by decide +kernel
theorem dX0_near_25 : decode cX0_near 25 = .ok (.invokevirtual 97, 3) := by decide +kernel
theorem dX0_near_28 : decode cX0_near 28 = .ok (.iconst 1, 1) := by decide +kernel
theorem dX0_near_29 : decode cX0_near 29 = .ok (.iload_n 1, 1) := by decide +kernel
theorem dX0_near_30 : decode cX0_near 30 = .ok (.ishl, 1) := by decide +kernel
theorem dX0_near_31 : decode cX0_near 31 = .ok (.iconst (-1), 1) := by decide +kernel
theorem dX0_near_32 : decode cX0_near 32 = .ok (.ixor, 1) := by decide +kernel
theorem dX0_near_33 : decode cX0_near 33 = .ok (.iand, 1) := by decide +kernel
theorem dX0_near_34 : decode cX0_near 34 = .ok (.istore_n 3, 1) := by decide +kernel
theorem dX0_near_35 : decode cX0_near 35 = .ok (.aload_n 0, 1) := by decide +kernel
theorem dX0_near_36 : decode cX0_near 36 = .ok (.iload_n 1, 1) := by decide +kernel
theorem dX0_near_37 : decode cX0_near 37 = .ok (.iload_n 3, 1) := by decide +kernel
theorem dX0_near_38 : decode cX0_near 38 = .ok (.invokevirtual 118, 3) := by decide +kernel
theorem dX0_near_41 : decode cX0_near 41 = .ok (.iload_n 3, 1) := by decide +kernel
theorem dX0_near_42 : decode cX0_near 42 = .ok (.istore 4, 2) := by decide +kernel
theorem dX0_near_44 : decode cX0_near 44 = .ok (.aload_n 0, 1) := by decide +kernel
theorem dX0_near_45 : decode cX0_near 45 = .ok (.iload 4, 2) := by decide +kernel
theorem dX0_near_47 : decode cX0_near 47 = .ok (.invokevirtual 121, 3) := by decide +kernel
theorem dX0_near_50 : decode cX0_near 50 = .ok (.istore 5, 2) := by decide +kernel
theorem dX0_near_52 : decode cX0_near 52 = .ok (.iconst 0, 1) := by decide +kernel
theorem dX0_near_53 : decode cX0_near 53 = .ok (.istore 6, 2) := by decide +kernel
theorem dX0_near_55 : decode cX0_near 55 = .ok (.iload 6, 2) := by decide +kernel
theorem dX0_near_57 : decode cX0_near 57 = .ok (.iload_n 2, 1) := by decide +kernel
theorem dX0_near_58 : decode cX0_near 58 = .ok (.if_icmp .ge 28, 3) := by decide +kernel
theorem dX0_near_61 : decode cX0_near 61 = .ok (.iload 4, 2) := by decide +kernel
theorem dX0_near_63 : decode cX0_near 63 = .ok (.iconst 1, 1) := by decide +kernel
theorem dX0_near_64 : decode cX0_near 64 = .ok (.iload 5, 2) := by decide +kernel
theorem dX0_near_66 : decode cX0_near 66 = .ok (.ishl, 1) := by decide +kernel
theorem dX0_near_67 : decode cX0_near 67 = .ok (.iconst (-1), 1) := by decide +kernel
theorem dX0_near_68 : decode cX0_near 68 = .ok (.ixor, 1) := by decide +kernel
theorem dX0_near_69 : decode cX0_near 69 = .ok (.iand, 1) := by decide +kernel
theorem dX0_near_70 : decode cX0_near 70 = .ok (.istore 4, 2) := by decide +kernel
theorem dX0_near_72 : decode cX0_near 72 = .ok (.aload_n 0, 1) := by decide +kernel
theorem dX0_near_73 : decode cX0_near 73 = .ok (.iload 4, 2) := by decide +kernel
theorem dX0_near_75 : decode cX0_near 75 = .ok (.invokevirtual 121, 3) := by decide +kernel
theorem dX0_near_78 : decode cX0_near 78 = .ok (.istore 5, 2) := by decide +kernel
theorem dX0_near_80 : decode cX0_near 80 = .ok (.iinc 6 1, 3) := by decide +kernel
theorem dX0_near_83 : decode cX0_near 83 = .ok (.goto (-28), 3) := by decide +kernel
theorem dX0_near_86 : decode cX0_near 86 = .ok (.iload 5, 2) := by decide +kernel
theorem dX0_near_88 : decode cX0_near 88 = .ok (.ireturn, 1) := by decide +kernel
theorem dX0_taken_0 : decode cX0_taken 0 = .ok (.iload_n 1, 1) := by decide +kernel
theorem dX0_taken_1 : decode cX0_taken 1 = .ok (.invokestatic 77, 3) := by decide +kernel
theorem dX0_taken_4 : decode cX0_taken 4 = .ok (.ifCond .eq 11, 3) := by decide +kernel
theorem dX0_taken_7 : decode cX0_taken 7 = .ok (.aload_n 0, 1) := by decide +kernel
theorem dX0_taken_8 : decode cX0_taken 8 = .ok (.iload_n 1, 1) := by decide +kernel
theorem dX0_taken_9 : decode cX0_taken 9 = .ok (.invokevirtual 125, 3) := by decide +kernel
theorem dX0_taken_12 : decode cX0_taken 12 = .ok (.goto 4, 3) := by decide +kernel
theorem dX0_taken_15 : decode cX0_taken 15 = .ok (.iconst (-1), 1) := by decide +kernel
theorem dX0_taken_16 : decode cX0_taken 16 = .ok (.ireturn, 1) := by decide +kernel
theorem dX0_score_0 : decode cX0_score 0 = .ok (.iload_n 1, 1) := by decide +kernel
theorem dX0_score_1 : decode cX0_score 1 = .ok (.invokestatic 77, 3) := by decide +kernel
theorem dX0_score_4 : decode cX0_score 4 = .ok (.ifCond .eq 24, 3) := by decide +kernel
theorem dX0_score_7 : decode cX0_score 7 = .ok (.aload_n 0, 1) := by decide +kernel
theorem dX0_score_8 : decode cX0_score 8 = .ok (.iload_n 2, 1) := by decide +kernel
theorem dX0_score_9 : decode cX0_score 9 = .ok (.invokevirtual 63, 3) := by decide +kernel
theorem dX0_score_12 : decode cX0_score 12 = .ok (.ifCond .eq 16, 3) := by decide +kernel
theorem dX0_score_15 : decode cX0_score 15 = .ok (.aload_n 0, 1) := by decide +kernel
theorem dX0_score_16 : decode cX0_score 16 = .ok (.aload_n 0, 1) := by decide +kernel
theorem dX0_score_17 : decode cX0_score 17 = .ok (.iload_n 1, 1) := by decide +kernel
theorem dX0_score_18 : decode cX0_score 18 = .ok (.invokevirtual 125, 3) := by decide +kernel
theorem dX0_score_21 : decode cX0_score 21 = .ok (.iload_n 2, 1) := by decide +kernel
theorem dX0_score_22 : decode cX0_score 22 = .ok (.invokevirtual 128, 3) := by decide +kernel
theorem dX0_score_25 : decode cX0_score 25 = .ok (.goto 5, 3) := by decide +kernel
theorem dX0_score_28 : decode cX0_score 28 = .ok (.ldc 117, 2) := by decide +kernel
theorem dX0_score_30 : decode cX0_score 30 = .ok (.ireturn, 1) := by decide +kernel
theorem dX0_may_0 : decode cX0_may 0 = .ok (.iload_n 1, 1) := by decide +kernel
theorem dX0_may_1 : decode cX0_may 1 = .ok (.invokestatic 77, 3) := by decide +kernel
theorem dX0_may_4 : decode cX0_may 4 = .ok (.ifCond .eq 11, 3) := by decide +kernel
theorem dX0_may_7 : decode cX0_may 7 = .ok (.aload_n 0, 1) := by decide +kernel
theorem dX0_may_8 : decode cX0_may 8 = .ok (.iload_n 1, 1) := by decide +kernel
theorem dX0_may_9 : decode cX0_may 9 = .ok (.invokevirtual 131, 3) := by decide +kernel
theorem dX0_may_12 : decode cX0_may 12 = .ok (.goto 4, 3) := by decide +kernel
theorem dX0_may_15 : decode cX0_may 15 = .ok (.iconst (-1), 1) := by decide +kernel
theorem dX0_may_16 : decode cX0_may 16 = .ok (.ireturn, 1) := by decide +kernel
theorem dX0_list_0 : decode cX0_list 0 = .ok (.aload_n 0, 1) := by decide +kernel
theorem dX0_list_1 : decode cX0_list 1 = .ok (.iload_n 1, 1) := by decide +kernel
theorem dX0_list_2 : decode cX0_list 2 = .ok (.iload_n 2, 1) := by decide +kernel
theorem dX0_list_3 : decode cX0_list 3 = .ok (.invokevirtual 134, 3) := by decide +kernel
theorem dX0_list_6 : decode cX0_list 6 = .ok (.ifCond .eq 12, 3) := by decide +kernel
theorem dX0_list_9 : decode cX0_list 9 = .ok (.iload_n 3, 1) := by decide +kernel
theorem dX0_list_10 : decode cX0_list 10 = .ok (.ifCond .lt 8, 3) := by decide +kernel
theorem dX0_list_13 : decode cX0_list 13 = .ok (.iload_n 3, 1) := by decide +kernel
theorem dX0_list_14 : decode cX0_list 14 = .ok (.iconst 1, 1) := by decide +kernel
theorem dX0_list_15 : decode cX0_list 15 = .ok (.if_icmp .le 6, 3) := by decide +kernel
theorem dX0_list_18 : decode cX0_list 18 = .ok (.ldc 117, 2) := by decide +kernel
theorem dX0_list_20 : decode cX0_list 20 = .ok (.ireturn, 1) := by decide +kernel
theorem dX0_list_21 : decode cX0_list 21 = .ok (.aload_n 0, 1) := by decide +kernel
theorem dX0_list_22 : decode cX0_list 22 = .ok (.iload_n 1, 1) := by decide +kernel
theorem dX0_list_23 : decode cX0_list 23 = .ok (.iload_n 2, 1) := by decide +kernel
theorem dX0_list_24 : decode cX0_list 24 = .ok (.invokevirtual 137, 3) := by decide +kernel
theorem dX0_list_27 : decode cX0_list 27 = .ok (.istore 4, 2) := by decide +kernel
theorem dX0_list_29 : decode cX0_list 29 = .ok (.iload_n 3, 1) := by decide +kernel
theorem dX0_list_30 : decode cX0_list 30 = .ok (.ifCond .ne 8, 3) := by decide +kernel
theorem dX0_list_33 : decode cX0_list 33 = .ok (.iload 4, 2) := by decide +kernel
theorem dX0_list_35 : decode cX0_list 35 = .ok (.goto 9, 3) := by decide +kernel
theorem dX0_list_38 : decode cX0_list 38 = .ok (.aload_n 0, 1) := by decide +kernel
theorem dX0_list_39 : decode cX0_list 39 = .ok (.iload 4, 2) := by decide +kernel
theorem dX0_list_41 : decode cX0_list 41 = .ok (.invokevirtual 140, 3) := by decide +kernel
theorem dX0_list_44 : decode cX0_list 44 = .ok (.ireturn, 1) := by decide +kernel
theorem dX0_show_0 : decode cX0_show 0 = .ok (.aload_n 0, 1) := by decide +kernel
theorem dX0_show_1 : decode cX0_show 1 = .ok (.iload_n 1, 1) := by decide +kernel
theorem dX0_show_2 : decode cX0_show 2 = .ok (.iload_n 2, 1) := by decide +kernel
theorem dX0_show_3 : decode cX0_show 3 = .ok (.invokevirtual 134, 3) := by decide +kernel
theorem dX0_show_6 : decode cX0_show 6 = .ok (.ifCond .ne 5, 3) := by decide +kernel
theorem dX0_show_9 : decode cX0_show 9 = .ok (.iconst (-1), 1) := by decide +kernel
theorem dX0_show_10 : decode cX0_show 10 = .ok (.ireturn, 1) := by decide +kernel
theorem dX0_show_11 : decode cX0_show 11 = .ok (.aload_n 0, 1) := by decide +kernel
theorem dX0_show_12 : decode cX0_show 12 = .ok (.iload_n 1, 1) := by decide +kernel
theorem dX0_show_13 : decode cX0_show 13 = .ok (.iload_n 2, 1) := by decide +kernel
theorem dX0_show_14 : decode cX0_show 14 = .ok (.invokevirtual 137, 3) := by decide +kernel
theorem dX0_show_17 : decode cX0_show 17 = .ok (.istore_n 3, 1) := by decide +kernel
theorem dX0_show_18 : decode cX0_show 18 = .ok (.aload_n 0, 1) := by decide +kernel
theorem dX0_show_19 : decode cX0_show 19 = .ok (.getfield 39, 3) := by decide +kernel
theorem dX0_show_22 : decode cX0_show 22 = .ok (.iload_n 1, 1) := by decide +kernel
theorem dX0_show_23 : decode cX0_show 23 = .ok (.dup2, 1) := by decide +kernel
theorem dX0_show_24 : decode cX0_show 24 = .ok (.iaload, 1) := by decide +kernel
theorem dX0_show_25 : decode cX0_show 25 = .ok (.iconst 1, 1) := by decide +kernel
theorem dX0_show_26 : decode cX0_show 26 = .ok (.iadd, 1) := by decide +kernel
theorem dX0_show_27 : decode cX0_show 27 = .ok (.iastore, 1) := by decide +kernel
theorem dX0_show_28 : decode cX0_show 28 = .ok (.iconst 0, 1) := by decide +kernel
theorem dX0_show_29 : decode cX0_show 29 = .ok (.istore 4, 2) := by decide +kernel
theorem dX0_show_31 : decode cX0_show 31 = .ok (.iload 4, 2) := by decide +kernel
theorem dX0_show_33 : decode cX0_show 33 = .ok (.aload_n 0, 1) := by decide +kernel
theorem dX0_show_34 : decode cX0_show 34 = .ok (.getfield 53, 3) := by decide +kernel
theorem dX0_show_37 : decode cX0_show 37 = .ok (.if_icmp .ge 25, 3) := by decide +kernel
theorem dX0_show_40 : decode cX0_show 40 = .ok (.iload_n 3, 1) := by decide +kernel
theorem dX0_show_41 : decode cX0_show 41 = .ok (.iload 4, 2) := by decide +kernel
theorem dX0_show_43 : decode cX0_show 43 = .ok (.invokestatic 67, 3) := by decide +kernel
theorem dX0_show_46 : decode cX0_show 46 = .ok (.ifCond .eq 10, 3) := by decide +kernel
theorem dX0_show_49 : decode cX0_show 49 = .ok (.aload_n 0, 1) := by decide +kernel
theorem dX0_show_50 : decode cX0_show 50 = .ok (.iload_n 1, 1) := by decide +kernel
theorem dX0_show_51 : decode cX0_show 51 = .ok (.iload 4, 2) := by decide +kernel
theorem dX0_show_53 : decode cX0_show 53 = .ok (.invokevirtual 143, 3) := by decide +kernel
theorem dX0_show_56 : decode cX0_show 56 = .ok (.iinc 4 1, 3) := by decide +kernel
theorem dX0_show_59 : decode cX0_show 59 = .ok (.goto (-28), 3) := by decide +kernel
theorem dX0_show_62 : decode cX0_show 62 = .ok (.iload_n 3, 1) := by decide +kernel
theorem dX0_show_63 : decode cX0_show 63 = .ok (.ireturn, 1) := by decide +kernel
theorem dX0_shown_0 : decode cX0_shown 0 = .ok (.iload_n 1, 1) := by decide +kernel
theorem dX0_shown_1 : decode cX0_shown 1 = .ok (.invokestatic 77, 3) := by decide +kernel
theorem dX0_shown_4 : decode cX0_shown 4 = .ok (.ifCond .ne 5, 3) := by decide +kernel
theorem dX0_shown_7 : decode cX0_shown 7 = .ok (.iconst (-1), 1) := by decide +kernel
theorem dX0_shown_8 : decode cX0_shown 8 = .ok (.ireturn, 1) := by decide +kernel
theorem dX0_shown_9 : decode cX0_shown 9 = .ok (.iload_n 3, 1) := by decide +kernel
theorem dX0_shown_10 : decode cX0_shown 10 = .ok (.iconst 2, 1) := by decide +kernel
theorem dX0_shown_11 : decode cX0_shown 11 = .ok (.if_icmp .ne 19, 3) := by decide +kernel
theorem dX0_shown_14 : decode cX0_shown 14 = .ok (.iload_n 2, 1) := by decide +kernel
theorem dX0_shown_15 : decode cX0_shown 15 = .ok (.iconst (-1), 1) := by decide +kernel
theorem dX0_shown_16 : decode cX0_shown 16 = .ok (.if_icmp .ne 12, 3) := by decide +kernel
theorem dX0_shown_19 : decode cX0_shown 19 = .ok (.aload_n 0, 1) := by decide +kernel
theorem dX0_shown_20 : decode cX0_shown 20 = .ok (.getfield 39, 3) := by decide +kernel
theorem dX0_shown_23 : decode cX0_shown 23 = .ok (.iload_n 1, 1) := by decide +kernel
theorem dX0_shown_24 : decode cX0_shown 24 = .ok (.iaload, 1) := by decide +kernel
theorem dX0_shown_25 : decode cX0_shown 25 = .ok (.goto 4, 3) := by decide +kernel
theorem dX0_shown_28 : decode cX0_shown 28 = .ok (.iconst (-1), 1) := by decide +kernel
theorem dX0_shown_29 : decode cX0_shown 29 = .ok (.ireturn, 1) := by decide +kernel
theorem dX0_shown_30 : decode cX0_shown 30 = .ok (.aload_n 0, 1) := by decide +kernel
theorem dX0_shown_31 : decode cX0_shown 31 = .ok (.iload_n 2, 1) := by decide +kernel
theorem dX0_shown_32 : decode cX0_shown 32 = .ok (.invokevirtual 63, 3) := by decide +kernel
theorem dX0_shown_35 : decode cX0_shown 35 = .ok (.ifCond .ne 5, 3) := by decide +kernel
theorem dX0_shown_38 : decode cX0_shown 38 = .ok (.iconst (-1), 1) := by decide +kernel
theorem dX0_shown_39 : decode cX0_shown 39 = .ok (.ireturn, 1) := by decide +kernel
theorem dX0_shown_40 : decode cX0_shown 40 = .ok (.iload_n 3, 1) := by decide +kernel
theorem dX0_shown_41 : decode cX0_shown 41 = .ok (.lookupswitch 43 #[(0, 27), (1, 36)], 27) := by decide +kernel
theorem dX0_shown_68 : decode cX0_shown 68 = .ok (.aload_n 0, 1) := by decide +kernel
theorem dX0_shown_69 : decode cX0_shown 69 = .ok (.getfield 44, 3) := by decide +kernel
theorem dX0_shown_72 : decode cX0_shown 72 = .ok (.iload_n 1, 1) := by decide +kernel
theorem dX0_shown_73 : decode cX0_shown 73 = .ok (.aaload, 1) := by decide +kernel
theorem dX0_shown_74 : decode cX0_shown 74 = .ok (.iload_n 2, 1) := by decide +kernel
theorem dX0_shown_75 : decode cX0_shown 75 = .ok (.iaload, 1) := by decide +kernel
theorem dX0_shown_76 : decode cX0_shown 76 = .ok (.ireturn, 1) := by decide +kernel
theorem dX0_shown_77 : decode cX0_shown 77 = .ok (.aload_n 0, 1) := by decide +kernel
theorem dX0_shown_78 : decode cX0_shown 78 = .ok (.iload_n 1, 1) := by decide +kernel
theorem dX0_shown_79 : decode cX0_shown 79 = .ok (.iload_n 2, 1) := by decide +kernel
theorem dX0_shown_80 : decode cX0_shown 80 = .ok (.invokevirtual 146, 3) := by decide +kernel
theorem dX0_shown_83 : decode cX0_shown 83 = .ok (.ireturn, 1) := by decide +kernel
theorem dX0_shown_84 : decode cX0_shown 84 = .ok (.iconst (-1), 1) := by decide +kernel
theorem dX0_shown_85 : decode cX0_shown 85 = .ok (.ireturn, 1) := by decide +kernel
theorem dX0_why_0 : decode cX0_why 0 = .ok (.iload_n 1, 1) := by decide +kernel
theorem dX0_why_1 : decode cX0_why 1 = .ok (.invokestatic 77, 3) := by decide +kernel
theorem dX0_why_4 : decode cX0_why 4 = .ok (.ifCond .eq 11, 3) := by decide +kernel
theorem dX0_why_7 : decode cX0_why 7 = .ok (.aload_n 0, 1) := by decide +kernel
theorem dX0_why_8 : decode cX0_why 8 = .ok (.iload_n 2, 1) := by decide +kernel
theorem dX0_why_9 : decode cX0_why 9 = .ok (.invokevirtual 63, 3) := by decide +kernel
theorem dX0_why_12 : decode cX0_why 12 = .ok (.ifCond .ne 6, 3) := by decide +kernel
theorem dX0_why_15 : decode cX0_why 15 = .ok (.ldc 117, 2) := by decide +kernel
theorem dX0_why_17 : decode cX0_why 17 = .ok (.ireturn, 1) := by decide +kernel
theorem dX0_why_18 : decode cX0_why 18 = .ok (.aload_n 0, 1) := by decide +kernel
theorem dX0_why_19 : decode cX0_why 19 = .ok (.iload_n 1, 1) := by decide +kernel
theorem dX0_why_20 : decode cX0_why 20 = .ok (.invokevirtual 125, 3) := by decide +kernel
theorem dX0_why_23 : decode cX0_why 23 = .ok (.iconst 1, 1) := by decide +kernel
theorem dX0_why_24 : decode cX0_why 24 = .ok (.iload_n 2, 1) := by decide +kernel
theorem dX0_why_25 : decode cX0_why 25 = .ok (.ishl, 1) := by decide +kernel
theorem dX0_why_26 : decode cX0_why 26 = .ok (.iconst (-1), 1) := by decide +kernel
theorem dX0_why_27 : decode cX0_why 27 = .ok (.ixor, 1) := by decide +kernel
theorem dX0_why_28 : decode cX0_why 28 = .ok (.iand, 1) := by decide +kernel
theorem dX0_why_29 : decode cX0_why 29 = .ok (.istore 4, 2) := by decide +kernel
theorem dX0_why_31 : decode cX0_why 31 = .ok (.iload 4, 2) := by decide +kernel
theorem dX0_why_33 : decode cX0_why 33 = .ok (.ifCond .ne 6, 3) := by decide +kernel
theorem dX0_why_36 : decode cX0_why 36 = .ok (.ldc 117, 2) := by decide +kernel
theorem dX0_why_38 : decode cX0_why 38 = .ok (.ireturn, 1) := by decide +kernel
theorem dX0_why_39 : decode cX0_why 39 = .ok (.aload_n 0, 1) := by decide +kernel
theorem dX0_why_40 : decode cX0_why 40 = .ok (.iload_n 2, 1) := by decide +kernel
theorem dX0_why_41 : decode cX0_why 41 = .ok (.iload 4, 2) := by decide +kernel
theorem dX0_why_43 : decode cX0_why 43 = .ok (.invokevirtual 118, 3) := by decide +kernel
theorem dX0_why_46 : decode cX0_why 46 = .ok (.aload_n 0, 1) := by decide +kernel
theorem dX0_why_47 : decode cX0_why 47 = .ok (.iload 4, 2) := by decide +kernel
theorem dX0_why_49 : decode cX0_why 49 = .ok (.invokevirtual 121, 3) := by decide +kernel
theorem dX0_why_52 : decode cX0_why 52 = .ok (.istore 5, 2) := by decide +kernel
theorem dX0_why_54 : decode cX0_why 54 = .ok (.iload_n 3, 1) := by decide +kernel
theorem dX0_why_55 : decode cX0_why 55 = .ok (.tableswitch 44 0 2 #[25, 28, 36], 25) := by decide +kernel
theorem dX0_why_80 : decode cX0_why 80 = .ok (.iload 5, 2) := by decide +kernel
theorem dX0_why_82 : decode cX0_why 82 = .ok (.ireturn, 1) := by decide +kernel
theorem dX0_why_83 : decode cX0_why 83 = .ok (.aload_n 0, 1) := by decide +kernel
theorem dX0_why_84 : decode cX0_why 84 = .ok (.iload_n 2, 1) := by decide +kernel
theorem dX0_why_85 : decode cX0_why 85 = .ok (.iload 5, 2) := by decide +kernel
theorem dX0_why_87 : decode cX0_why 87 = .ok (.invokevirtual 114, 3) := by decide +kernel
theorem dX0_why_90 : decode cX0_why 90 = .ok (.ireturn, 1) := by decide +kernel
theorem dX0_why_91 : decode cX0_why 91 = .ok (.aload_n 0, 1) := by decide +kernel
theorem dX0_why_92 : decode cX0_why 92 = .ok (.iload_n 2, 1) := by decide +kernel
theorem dX0_why_93 : decode cX0_why 93 = .ok (.iload 5, 2) := by decide +kernel
theorem dX0_why_95 : decode cX0_why 95 = .ok (.invokevirtual 107, 3) := by decide +kernel
theorem dX0_why_98 : decode cX0_why 98 = .ok (.ireturn, 1) := by decide +kernel
theorem dX0_why_99 : decode cX0_why 99 = .ok (.ldc 117, 2) := by decide +kernel
theorem dX0_why_101 : decode cX0_why 101 = .ok (.ireturn, 1) := by decide +kernel
theorem dX0_isThing_0 : decode cX0_isThing 0 = .ok (.iload_n 1, 1) := by decide +kernel
theorem dX0_isThing_1 : decode cX0_isThing 1 = .ok (.ifCond .lt 15, 3) := by decide +kernel
theorem dX0_isThing_4 : decode cX0_isThing 4 = .ok (.iload_n 1, 1) := by decide +kernel
theorem dX0_isThing_5 : decode cX0_isThing 5 = .ok (.aload_n 0, 1) := by decide +kernel
theorem dX0_isThing_6 : decode cX0_isThing 6 = .ok (.getfield 53, 3) := by decide +kernel
theorem dX0_isThing_9 : decode cX0_isThing 9 = .ok (.if_icmp .ge 7, 3) := by decide +kernel
theorem dX0_isThing_12 : decode cX0_isThing 12 = .ok (.iconst 1, 1) := by decide +kernel
theorem dX0_isThing_13 : decode cX0_isThing 13 = .ok (.goto 4, 3) := by decide +kernel
theorem dX0_isThing_16 : decode cX0_isThing 16 = .ok (.iconst 0, 1) := by decide +kernel
theorem dX0_isThing_17 : decode cX0_isThing 17 = .ok (.ireturn, 1) := by decide +kernel
theorem dX0_areTwoThings_0 : decode cX0_areTwoThings 0 = .ok (.aload_n 0, 1) := by decide +kernel
theorem dX0_areTwoThings_1 : decode cX0_areTwoThings 1 = .ok (.iload_n 1, 1) := by decide +kernel
theorem dX0_areTwoThings_2 : decode cX0_areTwoThings 2 = .ok (.invokevirtual 63, 3) := by decide +kernel
theorem dX0_areTwoThings_5 : decode cX0_areTwoThings 5 = .ok (.ifCond .eq 20, 3) := by decide +kernel
theorem dX0_areTwoThings_8 : decode cX0_areTwoThings 8 = .ok (.aload_n 0, 1) := by decide +kernel
theorem dX0_areTwoThings_9 : decode cX0_areTwoThings 9 = .ok (.iload_n 2, 1) := by decide +kernel
theorem dX0_areTwoThings_10 : decode cX0_areTwoThings 10 = .ok (.invokevirtual 63, 3) := by decide +kernel
theorem dX0_areTwoThings_13 : decode cX0_areTwoThings 13 = .ok (.ifCond .eq 12, 3) := by decide +kernel
theorem dX0_areTwoThings_16 : decode cX0_areTwoThings 16 = .ok (.iload_n 1, 1) := by decide +kernel
theorem dX0_areTwoThings_17 : decode cX0_areTwoThings 17 = .ok (.iload_n 2, 1) := by decide +kernel
theorem dX0_areTwoThings_18 : decode cX0_areTwoThings 18 = .ok (.if_icmp .eq 7, 3) := by decide +kernel
theorem dX0_areTwoThings_21 : decode cX0_areTwoThings 21 = .ok (.iconst 1, 1) := by decide +kernel
theorem dX0_areTwoThings_22 : decode cX0_areTwoThings 22 = .ok (.goto 4, 3) := by decide +kernel
theorem dX0_areTwoThings_25 : decode cX0_areTwoThings 25 = .ok (.iconst 0, 1) := by decide +kernel
theorem dX0_areTwoThings_26 : decode cX0_areTwoThings 26 = .ok (.ireturn, 1) := by decide +kernel
theorem dX0_isSetOfThings_0 : decode cX0_isSetOfThings 0 = .ok (.iload_n 1, 1) := by decide +kernel
theorem dX0_isSetOfThings_1 : decode cX0_isSetOfThings 1 = .ok (.aload_n 0, 1) := by decide +kernel
theorem dX0_isSetOfThings_2 : decode cX0_isSetOfThings 2 = .ok (.invokevirtual 97, 3) := by decide +kernel
theorem dX0_isSetOfThings_5 : decode cX0_isSetOfThings 5 = .ok (.iconst (-1), 1) := by decide +kernel
theorem dX0_isSetOfThings_6 : decode cX0_isSetOfThings 6 = .ok (.ixor, 1) := by decide +kernel
theorem dX0_isSetOfThings_7 : decode cX0_isSetOfThings 7 = .ok (.iand, 1) := by decide +kernel
theorem dX0_isSetOfThings_8 : decode cX0_isSetOfThings 8 = .ok (.ifCond .ne 7, 3) := by decide +kernel
theorem dX0_isSetOfThings_11 : decode cX0_isSetOfThings 11 = .ok (.iconst 1, 1) := by decide +kernel
theorem dX0_isSetOfThings_12 : decode cX0_isSetOfThings 12 = .ok (.goto 4, 3) := by decide +kernel
theorem dX0_isSetOfThings_15 : decode cX0_isSetOfThings 15 = .ok (.iconst 0, 1) := by decide +kernel
theorem dX0_isSetOfThings_16 : decode cX0_isSetOfThings 16 = .ok (.ireturn, 1) := by decide +kernel
theorem dX0_isBasket_0 : decode cX0_isBasket 0 = .ok (.iload_n 1, 1) := by decide +kernel
theorem dX0_isBasket_1 : decode cX0_isBasket 1 = .ok (.ifCond .lt 15, 3) := by decide +kernel
theorem dX0_isBasket_4 : decode cX0_isBasket 4 = .ok (.iload_n 1, 1) := by decide +kernel
theorem dX0_isBasket_5 : decode cX0_isBasket 5 = .ok (.aload_n 0, 1) := by decide +kernel
theorem dX0_isBasket_6 : decode cX0_isBasket 6 = .ok (.getfield 83, 3) := by decide +kernel
theorem dX0_isBasket_9 : decode cX0_isBasket 9 = .ok (.if_icmp .ge 7, 3) := by decide +kernel
theorem dX0_isBasket_12 : decode cX0_isBasket 12 = .ok (.iconst 1, 1) := by decide +kernel
theorem dX0_isBasket_13 : decode cX0_isBasket 13 = .ok (.goto 4, 3) := by decide +kernel
theorem dX0_isBasket_16 : decode cX0_isBasket 16 = .ok (.iconst 0, 1) := by decide +kernel
theorem dX0_isBasket_17 : decode cX0_isBasket 17 = .ok (.ireturn, 1) := by decide +kernel
theorem dX0_canList_0 : decode cX0_canList 0 = .ok (.iload_n 1, 1) := by decide +kernel
theorem dX0_canList_1 : decode cX0_canList 1 = .ok (.invokestatic 77, 3) := by decide +kernel
theorem dX0_canList_4 : decode cX0_canList 4 = .ok (.ifCond .eq 17, 3) := by decide +kernel
theorem dX0_canList_7 : decode cX0_canList 7 = .ok (.iload_n 2, 1) := by decide +kernel
theorem dX0_canList_8 : decode cX0_canList 8 = .ok (.iconst 1, 1) := by decide +kernel
theorem dX0_canList_9 : decode cX0_canList 9 = .ok (.if_icmp .lt 12, 3) := by decide +kernel
theorem dX0_canList_12 : decode cX0_canList 12 = .ok (.iload_n 2, 1) := by decide +kernel
theorem dX0_canList_13 : decode cX0_canList 13 = .ok (.iconst 5, 1) := by decide +kernel
theorem dX0_canList_14 : decode cX0_canList 14 = .ok (.if_icmp .gt 7, 3) := by decide +kernel
theorem dX0_canList_17 : decode cX0_canList 17 = .ok (.iconst 1, 1) := by decide +kernel
theorem dX0_canList_18 : decode cX0_canList 18 = .ok (.goto 4, 3) := by decide +kernel
theorem dX0_canList_21 : decode cX0_canList 21 = .ok (.iconst 0, 1) := by decide +kernel
theorem dX0_canList_22 : decode cX0_canList 22 = .ok (.ireturn, 1) := by decide +kernel
theorem dX0_isPerson_0 : decode cX0_isPerson 0 = .ok (.iload_n 0, 1) := by decide +kernel
theorem dX0_isPerson_1 : decode cX0_isPerson 1 = .ok (.ifCond .lt 13, 3) := by decide +kernel
theorem dX0_isPerson_4 : decode cX0_isPerson 4 = .ok (.iload_n 0, 1) := by decide +kernel
theorem dX0_isPerson_5 : decode cX0_isPerson 5 = .ok (.bipush 8, 2) := by decide +kernel
theorem dX0_isPerson_7 : decode cX0_isPerson 7 = .ok (.if_icmp .ge 7, 3) := by decide +kernel
theorem dX0_isPerson_10 : decode cX0_isPerson 10 = .ok (.iconst 1, 1) := by decide +kernel
theorem dX0_isPerson_11 : decode cX0_isPerson 11 = .ok (.goto 4, 3) := by decide +kernel
theorem dX0_isPerson_14 : decode cX0_isPerson 14 = .ok (.iconst 0, 1) := by decide +kernel
theorem dX0_isPerson_15 : decode cX0_isPerson 15 = .ok (.ireturn, 1) := by decide +kernel
theorem dX0_has_0 : decode cX0_has 0 = .ok (.iload_n 0, 1) := by decide +kernel
theorem dX0_has_1 : decode cX0_has 1 = .ok (.iload_n 1, 1) := by decide +kernel
theorem dX0_has_2 : decode cX0_has 2 = .ok (.ishr, 1) := by decide +kernel
theorem dX0_has_3 : decode cX0_has 3 = .ok (.iconst 1, 1) := by decide +kernel
theorem dX0_has_4 : decode cX0_has 4 = .ok (.iand, 1) := by decide +kernel
theorem dX0_has_5 : decode cX0_has 5 = .ok (.iconst 1, 1) := by decide +kernel
theorem dX0_has_6 : decode cX0_has 6 = .ok (.if_icmp .ne 7, 3) := by decide +kernel
theorem dX0_has_9 : decode cX0_has 9 = .ok (.iconst 1, 1) := by decide +kernel
theorem dX0_has_10 : decode cX0_has 10 = .ok (.goto 4, 3) := by decide +kernel
theorem dX0_has_13 : decode cX0_has 13 = .ok (.iconst 0, 1) := by decide +kernel
theorem dX0_has_14 : decode cX0_has 14 = .ok (.ireturn, 1) := by decide +kernel
theorem dX0_allThings_0 : decode cX0_allThings 0 = .ok (.iconst 1, 1) := by decide +kernel
theorem dX0_allThings_1 : decode cX0_allThings 1 = .ok (.aload_n 0, 1) := by decide +kernel
theorem dX0_allThings_2 : decode cX0_allThings 2 = .ok (.getfield 53, 3) := by decide +kernel
theorem dX0_allThings_5 : decode cX0_allThings 5 = .ok (.ishl, 1) := by decide +kernel
theorem dX0_allThings_6 : decode cX0_allThings 6 = .ok (.iconst 1, 1) := by decide +kernel
theorem dX0_allThings_7 : decode cX0_allThings 7 = .ok (.isub, 1) := by decide +kernel
theorem dX0_allThings_8 : decode cX0_allThings 8 = .ok (.ireturn, 1) := by decide +kernel
theorem dX0_newThings_0 : decode cX0_newThings 0 = .ok (.iconst 0, 1) := by decide +kernel
theorem dX0_newThings_1 : decode cX0_newThings 1 = .ok (.istore_n 1, 1) := by decide +kernel
theorem dX0_newThings_2 : decode cX0_newThings 2 = .ok (.iconst 0, 1) := by decide +kernel
theorem dX0_newThings_3 : decode cX0_newThings 3 = .ok (.istore_n 2, 1) := by decide +kernel
theorem dX0_newThings_4 : decode cX0_newThings 4 = .ok (.iload_n 2, 1) := by decide +kernel
theorem dX0_newThings_5 : decode cX0_newThings 5 = .ok (.aload_n 0, 1) := by decide +kernel
theorem dX0_newThings_6 : decode cX0_newThings 6 = .ok (.getfield 53, 3) := by decide +kernel
theorem dX0_newThings_9 : decode cX0_newThings 9 = .ok (.if_icmp .ge 31, 3) := by decide +kernel
theorem dX0_newThings_12 : decode cX0_newThings 12 = .ok (.aload_n 0, 1) := by decide +kernel
theorem dX0_newThings_13 : decode cX0_newThings 13 = .ok (.getfield 57, 3) := by decide +kernel
theorem dX0_newThings_16 : decode cX0_newThings 16 = .ok (.aload_n 0, 1) := by decide +kernel
theorem dX0_newThings_17 : decode cX0_newThings 17 = .ok (.getfield 21, 3) := by decide +kernel
theorem dX0_newThings_20 : decode cX0_newThings 20 = .ok (.iload_n 2, 1) := by decide +kernel
theorem dX0_newThings_21 : decode cX0_newThings 21 = .ok (.iaload, 1) := by decide +kernel
theorem dX0_newThings_22 : decode cX0_newThings 22 = .ok (.isub, 1) := by decide +kernel
theorem dX0_newThings_23 : decode cX0_newThings 23 = .ok (.bipush 10, 2) := by decide +kernel
theorem dX0_newThings_25 : decode cX0_newThings 25 = .ok (.if_icmp .ge 9, 3) := by decide +kernel
theorem dX0_newThings_28 : decode cX0_newThings 28 = .ok (.iload_n 1, 1) := by decide +kernel
theorem dX0_newThings_29 : decode cX0_newThings 29 = .ok (.iconst 1, 1) := by decide +kernel
theorem dX0_newThings_30 : decode cX0_newThings 30 = .ok (.iload_n 2, 1) := by decide +kernel
theorem dX0_newThings_31 : decode cX0_newThings 31 = .ok (.ishl, 1) := by decide +kernel
theorem dX0_newThings_32 : decode cX0_newThings 32 = .ok (.ior, 1) := by decide +kernel
theorem dX0_newThings_33 : decode cX0_newThings 33 = .ok (.istore_n 1, 1) := by decide +kernel
theorem dX0_newThings_34 : decode cX0_newThings 34 = .ok (.iinc 2 1, 3) := by decide +kernel
theorem dX0_newThings_37 : decode cX0_newThings 37 = .ok (.goto (-33), 3) := by decide +kernel
theorem dX0_newThings_40 : decode cX0_newThings 40 = .ok (.iload_n 1, 1) := by decide +kernel
theorem dX0_newThings_41 : decode cX0_newThings 41 = .ok (.ireturn, 1) := by decide +kernel
theorem dX0_removeBasket_0 : decode cX0_removeBasket 0 = .ok (.aload_n 0, 1) := by decide +kernel
theorem dX0_removeBasket_1 : decode cX0_removeBasket 1 = .ok (.dup, 1) := by decide +kernel
theorem dX0_removeBasket_2 : decode cX0_removeBasket 2 = .ok (.getfield 83, 3) := by decide +kernel
theorem dX0_removeBasket_5 : decode cX0_removeBasket 5 = .ok (.iconst 1, 1) := by decide +kernel
theorem dX0_removeBasket_6 : decode cX0_removeBasket 6 = .ok (.isub, 1) := by decide +kernel
theorem dX0_removeBasket_7 : decode cX0_removeBasket 7 = .ok (.putfield 83, 3) := by decide +kernel
theorem dX0_removeBasket_10 : decode cX0_removeBasket 10 = .ok (.iload_n 1, 1) := by decide +kernel
theorem dX0_removeBasket_11 : decode cX0_removeBasket 11 = .ok (.istore_n 2, 1) := by decide +kernel
theorem dX0_removeBasket_12 : decode cX0_removeBasket 12 = .ok (.iload_n 2, 1) := by decide +kernel
theorem dX0_removeBasket_13 : decode cX0_removeBasket 13 = .ok (.aload_n 0, 1) := by decide +kernel
theorem dX0_removeBasket_14 : decode cX0_removeBasket 14 = .ok (.getfield 83, 3) := by decide +kernel
theorem dX0_removeBasket_17 : decode cX0_removeBasket 17 = .ok (.if_icmp .ge 51, 3) := by decide +kernel
theorem dX0_removeBasket_20 : decode cX0_removeBasket 20 = .ok (.aload_n 0, 1) := by decide +kernel
theorem dX0_removeBasket_21 : decode cX0_removeBasket 21 = .ok (.getfield 30, 3) := by decide +kernel
theorem dX0_removeBasket_24 : decode cX0_removeBasket 24 = .ok (.iload_n 2, 1) := by decide +kernel
theorem dX0_removeBasket_25 : decode cX0_removeBasket 25 = .ok (.aload_n 0, 1) := by decide +kernel
theorem dX0_removeBasket_26 : decode cX0_removeBasket 26 = .ok (.getfield 30, 3) := by decide +kernel
theorem dX0_removeBasket_29 : decode cX0_removeBasket 29 = .ok (.iload_n 2, 1) := by decide +kernel
theorem dX0_removeBasket_30 : decode cX0_removeBasket 30 = .ok (.iconst 1, 1) := by decide +kernel
theorem dX0_removeBasket_31 : decode cX0_removeBasket 31 = .ok (.iadd, 1) := by decide +kernel
theorem dX0_removeBasket_32 : decode cX0_removeBasket 32 = .ok (.iaload, 1) := by decide +kernel
theorem dX0_removeBasket_33 : decode cX0_removeBasket 33 = .ok (.iastore, 1) := by decide +kernel
theorem dX0_removeBasket_34 : decode cX0_removeBasket 34 = .ok (.aload_n 0, 1) := by decide +kernel
theorem dX0_removeBasket_35 : decode cX0_removeBasket 35 = .ok (.getfield 33, 3) := by decide +kernel
theorem dX0_removeBasket_38 : decode cX0_removeBasket 38 = .ok (.iload_n 2, 1) := by decide +kernel
theorem dX0_removeBasket_39 : decode cX0_removeBasket 39 = .ok (.aload_n 0, 1) := by decide +kernel
theorem dX0_removeBasket_40 : decode cX0_removeBasket 40 = .ok (.getfield 33, 3) := by decide +kernel
theorem dX0_removeBasket_43 : decode cX0_removeBasket 43 = .ok (.iload_n 2, 1) := by decide +kernel
theorem dX0_removeBasket_44 : decode cX0_removeBasket 44 = .ok (.iconst 1, 1) := by decide +kernel
theorem dX0_removeBasket_45 : decode cX0_removeBasket 45 = .ok (.iadd, 1) := by decide +kernel
theorem dX0_removeBasket_46 : decode cX0_removeBasket 46 = .ok (.iaload, 1) := by decide +kernel
theorem dX0_removeBasket_47 : decode cX0_removeBasket 47 = .ok (.iastore, 1) := by decide +kernel
theorem dX0_removeBasket_48 : decode cX0_removeBasket 48 = .ok (.aload_n 0, 1) := by decide +kernel
theorem dX0_removeBasket_49 : decode cX0_removeBasket 49 = .ok (.getfield 36, 3) := by decide +kernel
theorem dX0_removeBasket_52 : decode cX0_removeBasket 52 = .ok (.iload_n 2, 1) := by decide +kernel
theorem dX0_removeBasket_53 : decode cX0_removeBasket 53 = .ok (.aload_n 0, 1) := by decide +kernel
theorem dX0_removeBasket_54 : decode cX0_removeBasket 54 = .ok (.getfield 36, 3) := by decide +kernel
theorem dX0_removeBasket_57 : decode cX0_removeBasket 57 = .ok (.iload_n 2, 1) := by decide +kernel
theorem dX0_removeBasket_58 : decode cX0_removeBasket 58 = .ok (.iconst 1, 1) := by decide +kernel
theorem dX0_removeBasket_59 : decode cX0_removeBasket 59 = .ok (.iadd, 1) := by decide +kernel
theorem dX0_removeBasket_60 : decode cX0_removeBasket 60 = .ok (.iaload, 1) := by decide +kernel
theorem dX0_removeBasket_61 : decode cX0_removeBasket 61 = .ok (.iastore, 1) := by decide +kernel
theorem dX0_removeBasket_62 : decode cX0_removeBasket 62 = .ok (.iinc 2 1, 3) := by decide +kernel
theorem dX0_removeBasket_65 : decode cX0_removeBasket 65 = .ok (.goto (-53), 3) := by decide +kernel
theorem dX0_removeBasket_68 : decode cX0_removeBasket 68 = .ok (.return_, 1) := by decide +kernel
theorem dX0_removeOldBaskets_0 : decode cX0_removeOldBaskets 0 = .ok (.aload_n 0, 1) := by decide +kernel
theorem dX0_removeOldBaskets_1 : decode cX0_removeOldBaskets 1 = .ok (.getfield 83, 3) := by decide +kernel
theorem dX0_removeOldBaskets_4 : decode cX0_removeOldBaskets 4 = .ok (.iconst 1, 1) := by decide +kernel
theorem dX0_removeOldBaskets_5 : decode cX0_removeOldBaskets 5 = .ok (.isub, 1) := by decide +kernel
theorem dX0_removeOldBaskets_6 : decode cX0_removeOldBaskets 6 = .ok (.istore_n 1, 1) := by decide +kernel
theorem dX0_removeOldBaskets_7 : decode cX0_removeOldBaskets 7 = .ok (.iload_n 1, 1) := by decide +kernel
theorem dX0_removeOldBaskets_8 : decode cX0_removeOldBaskets 8 = .ok (.ifCond .lt 30, 3) := by decide +kernel
theorem dX0_removeOldBaskets_11 : decode cX0_removeOldBaskets 11 = .ok (.aload_n 0, 1) := by decide +kernel
theorem dX0_removeOldBaskets_12 : decode cX0_removeOldBaskets 12 = .ok (.getfield 57, 3) := by decide +kernel
theorem dX0_removeOldBaskets_15 : decode cX0_removeOldBaskets 15 = .ok (.aload_n 0, 1) := by decide +kernel
theorem dX0_removeOldBaskets_16 : decode cX0_removeOldBaskets 16 = .ok (.getfield 33, 3) := by decide +kernel
theorem dX0_removeOldBaskets_19 : decode cX0_removeOldBaskets 19 = .ok (.iload_n 1, 1) := by decide +kernel
theorem dX0_removeOldBaskets_20 : decode cX0_removeOldBaskets 20 = .ok (.iaload, 1) := by decide +kernel
theorem dX0_removeOldBaskets_21 : decode cX0_removeOldBaskets 21 = .ok (.isub, 1) := by decide +kernel
theorem dX0_removeOldBaskets_22 : decode cX0_removeOldBaskets 22 = .ok (.bipush 28, 2) := by decide +kernel
theorem dX0_removeOldBaskets_24 : decode cX0_removeOldBaskets 24 = .ok (.if_icmp .lt 8, 3) := by decide +kernel
theorem dX0_removeOldBaskets_27 : decode cX0_removeOldBaskets 27 = .ok (.aload_n 0, 1) := by decide +kernel
theorem dX0_removeOldBaskets_28 : decode cX0_removeOldBaskets 28 = .ok (.iload_n 1, 1) := by decide +kernel
theorem dX0_removeOldBaskets_29 : decode cX0_removeOldBaskets 29 = .ok (.invokevirtual 93, 3) := by decide +kernel
theorem dX0_removeOldBaskets_32 : decode cX0_removeOldBaskets 32 = .ok (.iinc 1 (-1), 3) := by decide +kernel
theorem dX0_removeOldBaskets_35 : decode cX0_removeOldBaskets 35 = .ok (.goto (-28), 3) := by decide +kernel
theorem dX0_removeOldBaskets_38 : decode cX0_removeOldBaskets 38 = .ok (.return_, 1) := by decide +kernel
theorem dX0_basketsWith_0 : decode cX0_basketsWith 0 = .ok (.iconst 1, 1) := by decide +kernel
theorem dX0_basketsWith_1 : decode cX0_basketsWith 1 = .ok (.iload_n 1, 1) := by decide +kernel
theorem dX0_basketsWith_2 : decode cX0_basketsWith 2 = .ok (.ishl, 1) := by decide +kernel
theorem dX0_basketsWith_3 : decode cX0_basketsWith 3 = .ok (.iconst 1, 1) := by decide +kernel
theorem dX0_basketsWith_4 : decode cX0_basketsWith 4 = .ok (.iload_n 2, 1) := by decide +kernel
theorem dX0_basketsWith_5 : decode cX0_basketsWith 5 = .ok (.ishl, 1) := by decide +kernel
theorem dX0_basketsWith_6 : decode cX0_basketsWith 6 = .ok (.ior, 1) := by decide +kernel
theorem dX0_basketsWith_7 : decode cX0_basketsWith 7 = .ok (.istore_n 3, 1) := by decide +kernel
theorem dX0_basketsWith_8 : decode cX0_basketsWith 8 = .ok (.iconst 0, 1) := by decide +kernel
theorem dX0_basketsWith_9 : decode cX0_basketsWith 9 = .ok (.istore 4, 2) := by decide +kernel
theorem dX0_basketsWith_11 : decode cX0_basketsWith 11 = .ok (.iconst 0, 1) := by decide +kernel
theorem dX0_basketsWith_12 : decode cX0_basketsWith 12 = .ok (.istore 5, 2) := by decide +kernel
theorem dX0_basketsWith_14 : decode cX0_basketsWith 14 = .ok (.iload 5, 2) := by decide +kernel
theorem dX0_basketsWith_16 : decode cX0_basketsWith 16 = .ok (.aload_n 0, 1) := by decide +kernel
theorem dX0_basketsWith_17 : decode cX0_basketsWith 17 = .ok (.getfield 83, 3) := by decide +kernel
theorem dX0_basketsWith_20 : decode cX0_basketsWith 20 = .ok (.if_icmp .ge 25, 3) := by decide +kernel
theorem dX0_basketsWith_23 : decode cX0_basketsWith 23 = .ok (.aload_n 0, 1) := by decide +kernel
theorem dX0_basketsWith_24 : decode cX0_basketsWith 24 = .ok (.getfield 36, 3) := by decide +kernel
theorem dX0_basketsWith_27 : decode cX0_basketsWith 27 = .ok (.iload 5, 2) := by decide +kernel
theorem dX0_basketsWith_29 : decode cX0_basketsWith 29 = .ok (.iaload, 1) := by decide +kernel
theorem dX0_basketsWith_30 : decode cX0_basketsWith 30 = .ok (.iload_n 3, 1) := by decide +kernel
theorem dX0_basketsWith_31 : decode cX0_basketsWith 31 = .ok (.iand, 1) := by decide +kernel
theorem dX0_basketsWith_32 : decode cX0_basketsWith 32 = .ok (.iload_n 3, 1) := by decide +kernel
theorem dX0_basketsWith_33 : decode cX0_basketsWith 33 = .ok (.if_icmp .ne 6, 3) := by decide +kernel
theorem dX0_basketsWith_36 : decode cX0_basketsWith 36 = .ok (.iinc 4 1, 3) := by decide +kernel
theorem dX0_basketsWith_39 : decode cX0_basketsWith 39 = .ok (.iinc 5 1, 3) := by decide +kernel
theorem dX0_basketsWith_42 : decode cX0_basketsWith 42 = .ok (.goto (-28), 3) := by decide +kernel
theorem dX0_basketsWith_45 : decode cX0_basketsWith 45 = .ok (.iload 4, 2) := by decide +kernel
theorem dX0_basketsWith_47 : decode cX0_basketsWith 47 = .ok (.ireturn, 1) := by decide +kernel
theorem dX0_peopleWith_0 : decode cX0_peopleWith 0 = .ok (.iconst 1, 1) := by decide +kernel
theorem dX0_peopleWith_1 : decode cX0_peopleWith 1 = .ok (.iload_n 1, 1) := by decide +kernel
theorem dX0_peopleWith_2 : decode cX0_peopleWith 2 = .ok (.ishl, 1) := by decide +kernel
theorem dX0_peopleWith_3 : decode cX0_peopleWith 3 = .ok (.iconst 1, 1) := by decide +kernel
theorem dX0_peopleWith_4 : decode cX0_peopleWith 4 = .ok (.iload_n 2, 1) := by decide +kernel
theorem dX0_peopleWith_5 : decode cX0_peopleWith 5 = .ok (.ishl, 1) := by decide +kernel
theorem dX0_peopleWith_6 : decode cX0_peopleWith 6 = .ok (.ior, 1) := by decide +kernel
theorem dX0_peopleWith_7 : decode cX0_peopleWith 7 = .ok (.istore_n 3, 1) := by decide +kernel
theorem dX0_peopleWith_8 : decode cX0_peopleWith 8 = .ok (.iconst 0, 1) := by decide +kernel
theorem dX0_peopleWith_9 : decode cX0_peopleWith 9 = .ok (.istore 4, 2) := by decide +kernel
theorem dX0_peopleWith_11 : decode cX0_peopleWith 11 = .ok (.iconst 0, 1) := by decide +kernel
theorem dX0_peopleWith_12 : decode cX0_peopleWith 12 = .ok (.istore 5, 2) := by decide +kernel
theorem dX0_peopleWith_14 : decode cX0_peopleWith 14 = .ok (.iload 5, 2) := by decide +kernel
theorem dX0_peopleWith_16 : decode cX0_peopleWith 16 = .ok (.aload_n 0, 1) := by decide +kernel
theorem dX0_peopleWith_17 : decode cX0_peopleWith 17 = .ok (.getfield 83, 3) := by decide +kernel
theorem dX0_peopleWith_20 : decode cX0_peopleWith 20 = .ok (.if_icmp .ge 36, 3) := by decide +kernel
theorem dX0_peopleWith_23 : decode cX0_peopleWith 23 = .ok (.aload_n 0, 1) := by decide +kernel
theorem dX0_peopleWith_24 : decode cX0_peopleWith 24 = .ok (.getfield 36, 3) := by decide +kernel
theorem dX0_peopleWith_27 : decode cX0_peopleWith 27 = .ok (.iload 5, 2) := by decide +kernel
theorem dX0_peopleWith_29 : decode cX0_peopleWith 29 = .ok (.iaload, 1) := by decide +kernel
theorem dX0_peopleWith_30 : decode cX0_peopleWith 30 = .ok (.iload_n 3, 1) := by decide +kernel
theorem dX0_peopleWith_31 : decode cX0_peopleWith 31 = .ok (.iand, 1) := by decide +kernel
theorem dX0_peopleWith_32 : decode cX0_peopleWith 32 = .ok (.iload_n 3, 1) := by decide +kernel
theorem dX0_peopleWith_33 : decode cX0_peopleWith 33 = .ok (.if_icmp .ne 17, 3) := by decide +kernel
theorem dX0_peopleWith_36 : decode cX0_peopleWith 36 = .ok (.iload 4, 2) := by decide +kernel
theorem dX0_peopleWith_38 : decode cX0_peopleWith 38 = .ok (.iconst 1, 1) := by decide +kernel
theorem dX0_peopleWith_39 : decode cX0_peopleWith 39 = .ok (.aload_n 0, 1) := by decide +kernel
theorem dX0_peopleWith_40 : decode cX0_peopleWith 40 = .ok (.getfield 30, 3) := by decide +kernel
theorem dX0_peopleWith_43 : decode cX0_peopleWith 43 = .ok (.iload 5, 2) := by decide +kernel
theorem dX0_peopleWith_45 : decode cX0_peopleWith 45 = .ok (.iaload, 1) := by decide +kernel
theorem dX0_peopleWith_46 : decode cX0_peopleWith 46 = .ok (.ishl, 1) := by decide +kernel
theorem dX0_peopleWith_47 : decode cX0_peopleWith 47 = .ok (.ior, 1) := by decide +kernel
theorem dX0_peopleWith_48 : decode cX0_peopleWith 48 = .ok (.istore 4, 2) := by decide +kernel
theorem dX0_peopleWith_50 : decode cX0_peopleWith 50 = .ok (.iinc 5 1, 3) := by decide +kernel
theorem dX0_peopleWith_53 : decode cX0_peopleWith 53 = .ok (.goto (-39), 3) := by decide +kernel
theorem dX0_peopleWith_56 : decode cX0_peopleWith 56 = .ok (.iload 4, 2) := by decide +kernel
theorem dX0_peopleWith_58 : decode cX0_peopleWith 58 = .ok (.invokestatic 149, 3) := by decide +kernel
theorem dX0_peopleWith_61 : decode cX0_peopleWith 61 = .ok (.ireturn, 1) := by decide +kernel
theorem dX0_kinOf_0 : decode cX0_kinOf 0 = .ok (.aload_n 0, 1) := by decide +kernel
theorem dX0_kinOf_1 : decode cX0_kinOf 1 = .ok (.iload_n 1, 1) := by decide +kernel
theorem dX0_kinOf_2 : decode cX0_kinOf 2 = .ok (.iload_n 2, 1) := by decide +kernel
theorem dX0_kinOf_3 : decode cX0_kinOf 3 = .ok (.invokevirtual 111, 3) := by decide +kernel
theorem dX0_kinOf_6 : decode cX0_kinOf 6 = .ok (.aload_n 0, 1) := by decide +kernel
theorem dX0_kinOf_7 : decode cX0_kinOf 7 = .ok (.getfield 18, 3) := by decide +kernel
theorem dX0_kinOf_10 : decode cX0_kinOf 10 = .ok (.iconst 0, 1) := by decide +kernel
theorem dX0_kinOf_11 : decode cX0_kinOf 11 = .ok (.iaload, 1) := by decide +kernel
theorem dX0_kinOf_12 : decode cX0_kinOf 12 = .ok (.if_icmp .ge 5, 3) := by decide +kernel
theorem dX0_kinOf_15 : decode cX0_kinOf 15 = .ok (.iconst 0, 1) := by decide +kernel
theorem dX0_kinOf_16 : decode cX0_kinOf 16 = .ok (.ireturn, 1) := by decide +kernel
theorem dX0_kinOf_17 : decode cX0_kinOf 17 = .ok (.aload_n 0, 1) := by decide +kernel
theorem dX0_kinOf_18 : decode cX0_kinOf 18 = .ok (.iload_n 1, 1) := by decide +kernel
theorem dX0_kinOf_19 : decode cX0_kinOf 19 = .ok (.iload_n 1, 1) := by decide +kernel
theorem dX0_kinOf_20 : decode cX0_kinOf 20 = .ok (.invokevirtual 107, 3) := by decide +kernel
theorem dX0_kinOf_23 : decode cX0_kinOf 23 = .ok (.aload_n 0, 1) := by decide +kernel
theorem dX0_kinOf_24 : decode cX0_kinOf 24 = .ok (.iload_n 2, 1) := by decide +kernel
theorem dX0_kinOf_25 : decode cX0_kinOf 25 = .ok (.iload_n 2, 1) := by decide +kernel
theorem dX0_kinOf_26 : decode cX0_kinOf 26 = .ok (.invokevirtual 107, 3) := by decide +kernel
theorem dX0_kinOf_29 : decode cX0_kinOf 29 = .ok (.imul, 1) := by decide +kernel
theorem dX0_kinOf_30 : decode cX0_kinOf 30 = .ok (.istore_n 3, 1) := by decide +kernel
theorem dX0_kinOf_31 : decode cX0_kinOf 31 = .ok (.iload_n 3, 1) := by decide +kernel
theorem dX0_kinOf_32 : decode cX0_kinOf 32 = .ok (.ifCond .ne 5, 3) := by decide +kernel
theorem dX0_kinOf_35 : decode cX0_kinOf 35 = .ok (.iconst 0, 1) := by decide +kernel
theorem dX0_kinOf_36 : decode cX0_kinOf 36 = .ok (.ireturn, 1) := by decide +kernel
theorem dX0_kinOf_37 : decode cX0_kinOf 37 = .ok (.sipush 1000, 3) := by decide +kernel
theorem dX0_kinOf_40 : decode cX0_kinOf 40 = .ok (.aload_n 0, 1) := by decide +kernel
theorem dX0_kinOf_41 : decode cX0_kinOf 41 = .ok (.iload_n 1, 1) := by decide +kernel
theorem dX0_kinOf_42 : decode cX0_kinOf 42 = .ok (.iload_n 2, 1) := by decide +kernel
theorem dX0_kinOf_43 : decode cX0_kinOf 43 = .ok (.invokevirtual 107, 3) := by decide +kernel
theorem dX0_kinOf_46 : decode cX0_kinOf 46 = .ok (.imul, 1) := by decide +kernel
theorem dX0_kinOf_47 : decode cX0_kinOf 47 = .ok (.aload_n 0, 1) := by decide +kernel
theorem dX0_kinOf_48 : decode cX0_kinOf 48 = .ok (.getfield 83, 3) := by decide +kernel
theorem dX0_kinOf_51 : decode cX0_kinOf 51 = .ok (.imul, 1) := by decide +kernel
theorem dX0_kinOf_52 : decode cX0_kinOf 52 = .ok (.iload_n 3, 1) := by decide +kernel
theorem dX0_kinOf_53 : decode cX0_kinOf 53 = .ok (.idiv, 1) := by decide +kernel
theorem dX0_kinOf_54 : decode cX0_kinOf 54 = .ok (.sipush 1000, 3) := by decide +kernel
theorem dX0_kinOf_57 : decode cX0_kinOf 57 = .ok (.isub, 1) := by decide +kernel
theorem dX0_kinOf_58 : decode cX0_kinOf 58 = .ok (.ireturn, 1) := by decide +kernel
theorem dX0_takenBy_0 : decode cX0_takenBy 0 = .ok (.iconst 0, 1) := by decide +kernel
theorem dX0_takenBy_1 : decode cX0_takenBy 1 = .ok (.istore_n 2, 1) := by decide +kernel
theorem dX0_takenBy_2 : decode cX0_takenBy 2 = .ok (.iconst 0, 1) := by decide +kernel
theorem dX0_takenBy_3 : decode cX0_takenBy 3 = .ok (.istore_n 3, 1) := by decide +kernel
theorem dX0_takenBy_4 : decode cX0_takenBy 4 = .ok (.iload_n 3, 1) := by decide +kernel
theorem dX0_takenBy_5 : decode cX0_takenBy 5 = .ok (.aload_n 0, 1) := by decide +kernel
theorem dX0_takenBy_6 : decode cX0_takenBy 6 = .ok (.getfield 83, 3) := by decide +kernel
theorem dX0_takenBy_9 : decode cX0_takenBy 9 = .ok (.if_icmp .ge 28, 3) := by decide +kernel
theorem dX0_takenBy_12 : decode cX0_takenBy 12 = .ok (.aload_n 0, 1) := by decide +kernel
theorem dX0_takenBy_13 : decode cX0_takenBy 13 = .ok (.getfield 30, 3) := by decide +kernel
theorem dX0_takenBy_16 : decode cX0_takenBy 16 = .ok (.iload_n 3, 1) := by decide +kernel
theorem dX0_takenBy_17 : decode cX0_takenBy 17 = .ok (.iaload, 1) := by decide +kernel
theorem dX0_takenBy_18 : decode cX0_takenBy 18 = .ok (.iload_n 1, 1) := by decide +kernel
theorem dX0_takenBy_19 : decode cX0_takenBy 19 = .ok (.if_icmp .ne 12, 3) := by decide +kernel
theorem dX0_takenBy_22 : decode cX0_takenBy 22 = .ok (.iload_n 2, 1) := by decide +kernel
theorem dX0_takenBy_23 : decode cX0_takenBy 23 = .ok (.aload_n 0, 1) := by decide +kernel
theorem dX0_takenBy_24 : decode cX0_takenBy 24 = .ok (.getfield 36, 3) := by decide +kernel
theorem dX0_takenBy_27 : decode cX0_takenBy 27 = .ok (.iload_n 3, 1) := by decide +kernel
theorem dX0_takenBy_28 : decode cX0_takenBy 28 = .ok (.iaload, 1) := by decide +kernel
theorem dX0_takenBy_29 : decode cX0_takenBy 29 = .ok (.ior, 1) := by decide +kernel
theorem dX0_takenBy_30 : decode cX0_takenBy 30 = .ok (.istore_n 2, 1) := by decide +kernel
theorem dX0_takenBy_31 : decode cX0_takenBy 31 = .ok (.iinc 3 1, 3) := by decide +kernel
theorem dX0_takenBy_34 : decode cX0_takenBy 34 = .ok (.goto (-30), 3) := by decide +kernel
theorem dX0_takenBy_37 : decode cX0_takenBy 37 = .ok (.iload_n 2, 1) := by decide +kernel
theorem dX0_takenBy_38 : decode cX0_takenBy 38 = .ok (.ireturn, 1) := by decide +kernel
theorem dX0_scoreOf_0 : decode cX0_scoreOf 0 = .ok (.iconst 0, 1) := by decide +kernel
theorem dX0_scoreOf_1 : decode cX0_scoreOf 1 = .ok (.istore_n 3, 1) := by decide +kernel
theorem dX0_scoreOf_2 : decode cX0_scoreOf 2 = .ok (.iconst 0, 1) := by decide +kernel
theorem dX0_scoreOf_3 : decode cX0_scoreOf 3 = .ok (.istore 4, 2) := by decide +kernel
theorem dX0_scoreOf_5 : decode cX0_scoreOf 5 = .ok (.iload 4, 2) := by decide +kernel
theorem dX0_scoreOf_7 : decode cX0_scoreOf 7 = .ok (.aload_n 0, 1) := by decide +kernel
theorem dX0_scoreOf_8 : decode cX0_scoreOf 8 = .ok (.getfield 53, 3) := by decide +kernel
theorem dX0_scoreOf_11 : decode cX0_scoreOf 11 = .ok (.if_icmp .ge 34, 3) := by decide +kernel
theorem dX0_scoreOf_14 : decode cX0_scoreOf 14 = .ok (.iload 4, 2) := by decide +kernel
theorem dX0_scoreOf_16 : decode cX0_scoreOf 16 = .ok (.iload_n 2, 1) := by decide +kernel
theorem dX0_scoreOf_17 : decode cX0_scoreOf 17 = .ok (.if_icmp .eq 22, 3) := by decide +kernel
theorem dX0_scoreOf_20 : decode cX0_scoreOf 20 = .ok (.iload_n 1, 1) := by decide +kernel
theorem dX0_scoreOf_21 : decode cX0_scoreOf 21 = .ok (.iload 4, 2) := by decide +kernel
theorem dX0_scoreOf_23 : decode cX0_scoreOf 23 = .ok (.invokestatic 67, 3) := by decide +kernel
theorem dX0_scoreOf_26 : decode cX0_scoreOf 26 = .ok (.ifCond .eq 13, 3) := by decide +kernel
theorem dX0_scoreOf_29 : decode cX0_scoreOf 29 = .ok (.iload_n 3, 1) := by decide +kernel
theorem dX0_scoreOf_30 : decode cX0_scoreOf 30 = .ok (.aload_n 0, 1) := by decide +kernel
theorem dX0_scoreOf_31 : decode cX0_scoreOf 31 = .ok (.iload_n 2, 1) := by decide +kernel
theorem dX0_scoreOf_32 : decode cX0_scoreOf 32 = .ok (.iload 4, 2) := by decide +kernel
theorem dX0_scoreOf_34 : decode cX0_scoreOf 34 = .ok (.invokevirtual 114, 3) := by decide +kernel
theorem dX0_scoreOf_37 : decode cX0_scoreOf 37 = .ok (.iadd, 1) := by decide +kernel
theorem dX0_scoreOf_38 : decode cX0_scoreOf 38 = .ok (.istore_n 3, 1) := by decide +kernel
theorem dX0_scoreOf_39 : decode cX0_scoreOf 39 = .ok (.iinc 4 1, 3) := by decide +kernel
theorem dX0_scoreOf_42 : decode cX0_scoreOf 42 = .ok (.goto (-37), 3) := by decide +kernel
theorem dX0_scoreOf_45 : decode cX0_scoreOf 45 = .ok (.iload_n 3, 1) := by decide +kernel
theorem dX0_scoreOf_46 : decode cX0_scoreOf 46 = .ok (.ireturn, 1) := by decide +kernel
theorem dX0_writeKin_0 : decode cX0_writeKin 0 = .ok (.iconst 0, 1) := by decide +kernel
theorem dX0_writeKin_1 : decode cX0_writeKin 1 = .ok (.istore_n 3, 1) := by decide +kernel
theorem dX0_writeKin_2 : decode cX0_writeKin 2 = .ok (.iload_n 3, 1) := by decide +kernel
theorem dX0_writeKin_3 : decode cX0_writeKin 3 = .ok (.aload_n 0, 1) := by decide +kernel
theorem dX0_writeKin_4 : decode cX0_writeKin 4 = .ok (.getfield 53, 3) := by decide +kernel
theorem dX0_writeKin_7 : decode cX0_writeKin 7 = .ok (.if_icmp .ge 29, 3) := by decide +kernel
theorem dX0_writeKin_10 : decode cX0_writeKin 10 = .ok (.iload_n 2, 1) := by decide +kernel
theorem dX0_writeKin_11 : decode cX0_writeKin 11 = .ok (.iload_n 3, 1) := by decide +kernel
theorem dX0_writeKin_12 : decode cX0_writeKin 12 = .ok (.invokestatic 67, 3) := by decide +kernel
theorem dX0_writeKin_15 : decode cX0_writeKin 15 = .ok (.ifCond .eq 15, 3) := by decide +kernel
theorem dX0_writeKin_18 : decode cX0_writeKin 18 = .ok (.aload_n 0, 1) := by decide +kernel
theorem dX0_writeKin_19 : decode cX0_writeKin 19 = .ok (.getfield 50, 3) := by decide +kernel
theorem dX0_writeKin_22 : decode cX0_writeKin 22 = .ok (.iload_n 3, 1) := by decide +kernel
theorem dX0_writeKin_23 : decode cX0_writeKin 23 = .ok (.aload_n 0, 1) := by decide +kernel
theorem dX0_writeKin_24 : decode cX0_writeKin 24 = .ok (.iload_n 1, 1) := by decide +kernel
theorem dX0_writeKin_25 : decode cX0_writeKin 25 = .ok (.iload_n 3, 1) := by decide +kernel
theorem dX0_writeKin_26 : decode cX0_writeKin 26 = .ok (.invokevirtual 114, 3) := by decide +kernel
theorem dX0_writeKin_29 : decode cX0_writeKin 29 = .ok (.iastore, 1) := by decide +kernel
theorem dX0_writeKin_30 : decode cX0_writeKin 30 = .ok (.iinc 3 1, 3) := by decide +kernel
theorem dX0_writeKin_33 : decode cX0_writeKin 33 = .ok (.goto (-31), 3) := by decide +kernel
theorem dX0_writeKin_36 : decode cX0_writeKin 36 = .ok (.return_, 1) := by decide +kernel
theorem dX0_writeScores_0 : decode cX0_writeScores 0 = .ok (.aload_n 0, 1) := by decide +kernel
theorem dX0_writeScores_1 : decode cX0_writeScores 1 = .ok (.iload_n 1, 1) := by decide +kernel
theorem dX0_writeScores_2 : decode cX0_writeScores 2 = .ok (.invokevirtual 125, 3) := by decide +kernel
theorem dX0_writeScores_5 : decode cX0_writeScores 5 = .ok (.istore_n 3, 1) := by decide +kernel
theorem dX0_writeScores_6 : decode cX0_writeScores 6 = .ok (.iconst 0, 1) := by decide +kernel
theorem dX0_writeScores_7 : decode cX0_writeScores 7 = .ok (.istore 4, 2) := by decide +kernel
theorem dX0_writeScores_9 : decode cX0_writeScores 9 = .ok (.iload 4, 2) := by decide +kernel
theorem dX0_writeScores_11 : decode cX0_writeScores 11 = .ok (.aload_n 0, 1) := by decide +kernel
theorem dX0_writeScores_12 : decode cX0_writeScores 12 = .ok (.getfield 53, 3) := by decide +kernel
theorem dX0_writeScores_15 : decode cX0_writeScores 15 = .ok (.if_icmp .ge 32, 3) := by decide +kernel
theorem dX0_writeScores_18 : decode cX0_writeScores 18 = .ok (.iload_n 2, 1) := by decide +kernel
theorem dX0_writeScores_19 : decode cX0_writeScores 19 = .ok (.iload 4, 2) := by decide +kernel
theorem dX0_writeScores_21 : decode cX0_writeScores 21 = .ok (.invokestatic 67, 3) := by decide +kernel
theorem dX0_writeScores_24 : decode cX0_writeScores 24 = .ok (.ifCond .eq 17, 3) := by decide +kernel
theorem dX0_writeScores_27 : decode cX0_writeScores 27 = .ok (.aload_n 0, 1) := by decide +kernel
theorem dX0_writeScores_28 : decode cX0_writeScores 28 = .ok (.getfield 50, 3) := by decide +kernel
theorem dX0_writeScores_31 : decode cX0_writeScores 31 = .ok (.iload 4, 2) := by decide +kernel
theorem dX0_writeScores_33 : decode cX0_writeScores 33 = .ok (.aload_n 0, 1) := by decide +kernel
theorem dX0_writeScores_34 : decode cX0_writeScores 34 = .ok (.iload_n 3, 1) := by decide +kernel
theorem dX0_writeScores_35 : decode cX0_writeScores 35 = .ok (.iload 4, 2) := by decide +kernel
theorem dX0_writeScores_37 : decode cX0_writeScores 37 = .ok (.invokevirtual 128, 3) := by decide +kernel
theorem dX0_writeScores_40 : decode cX0_writeScores 40 = .ok (.iastore, 1) := by decide +kernel
theorem dX0_writeScores_41 : decode cX0_writeScores 41 = .ok (.iinc 4 1, 3) := by decide +kernel
theorem dX0_writeScores_44 : decode cX0_writeScores 44 = .ok (.goto (-35), 3) := by decide +kernel
theorem dX0_writeScores_47 : decode cX0_writeScores 47 = .ok (.return_, 1) := by decide +kernel
theorem dX0_bestByPoints_0 : decode cX0_bestByPoints 0 = .ok (.iconst 0, 1) := by decide +kernel
theorem dX0_bestByPoints_1 : decode cX0_bestByPoints 1 = .ok (.istore_n 2, 1) := by decide +kernel
theorem dX0_bestByPoints_2 : decode cX0_bestByPoints 2 = .ok (.iconst 0, 1) := by decide +kernel
theorem dX0_bestByPoints_3 : decode cX0_bestByPoints 3 = .ok (.istore_n 3, 1) := by decide +kernel
theorem dX0_bestByPoints_4 : decode cX0_bestByPoints 4 = .ok (.iconst 0, 1) := by decide +kernel
theorem dX0_bestByPoints_5 : decode cX0_bestByPoints 5 = .ok (.istore 4, 2) := by decide +kernel
theorem dX0_bestByPoints_7 : decode cX0_bestByPoints 7 = .ok (.iload 4, 2) := by decide +kernel
theorem dX0_bestByPoints_9 : decode cX0_bestByPoints 9 = .ok (.aload_n 0, 1) := by decide +kernel
theorem dX0_bestByPoints_10 : decode cX0_bestByPoints 10 = .ok (.getfield 53, 3) := by decide +kernel
theorem dX0_bestByPoints_13 : decode cX0_bestByPoints 13 = .ok (.if_icmp .ge 43, 3) := by decide +kernel
theorem dX0_bestByPoints_16 : decode cX0_bestByPoints 16 = .ok (.iload_n 1, 1) := by decide +kernel
theorem dX0_bestByPoints_17 : decode cX0_bestByPoints 17 = .ok (.iload 4, 2) := by decide +kernel
theorem dX0_bestByPoints_19 : decode cX0_bestByPoints 19 = .ok (.invokestatic 67, 3) := by decide +kernel
theorem dX0_bestByPoints_22 : decode cX0_bestByPoints 22 = .ok (.ifCond .eq 28, 3) := by decide +kernel
theorem dX0_bestByPoints_25 : decode cX0_bestByPoints 25 = .ok (.iload_n 3, 1) := by decide +kernel
theorem dX0_bestByPoints_26 : decode cX0_bestByPoints 26 = .ok (.ifCond .eq 19, 3) := by decide +kernel
theorem dX0_bestByPoints_29 : decode cX0_bestByPoints 29 = .ok (.aload_n 0, 1) := by decide +kernel
theorem dX0_bestByPoints_30 : decode cX0_bestByPoints 30 = .ok (.getfield 50, 3) := by decide +kernel
theorem dX0_bestByPoints_33 : decode cX0_bestByPoints 33 = .ok (.iload 4, 2) := by decide +kernel
theorem dX0_bestByPoints_35 : decode cX0_bestByPoints 35 = .ok (.iaload, 1) := by decide +kernel
theorem dX0_bestByPoints_36 : decode cX0_bestByPoints 36 = .ok (.aload_n 0, 1) := by decide +kernel
theorem dX0_bestByPoints_37 : decode cX0_bestByPoints 37 = .ok (.getfield 50, 3) := by decide +kernel
theorem dX0_bestByPoints_40 : decode cX0_bestByPoints 40 = .ok (.iload_n 2, 1) := by decide +kernel
theorem dX0_bestByPoints_41 : decode cX0_bestByPoints 41 = .ok (.iaload, 1) := by decide +kernel
theorem dX0_bestByPoints_42 : decode cX0_bestByPoints 42 = .ok (.if_icmp .le 8, 3) := by decide +kernel
theorem dX0_bestByPoints_45 : decode cX0_bestByPoints 45 = .ok (.iload 4, 2) := by decide +kernel
theorem dX0_bestByPoints_47 : decode cX0_bestByPoints 47 = .ok (.istore_n 2, 1) := by decide +kernel
theorem dX0_bestByPoints_48 : decode cX0_bestByPoints 48 = .ok (.iconst 1, 1) := by decide +kernel
theorem dX0_bestByPoints_49 : decode cX0_bestByPoints 49 = .ok (.istore_n 3, 1) := by decide +kernel
theorem dX0_bestByPoints_50 : decode cX0_bestByPoints 50 = .ok (.iinc 4 1, 3) := by decide +kernel
theorem dX0_bestByPoints_53 : decode cX0_bestByPoints 53 = .ok (.goto (-46), 3) := by decide +kernel
theorem dX0_bestByPoints_56 : decode cX0_bestByPoints 56 = .ok (.iload_n 2, 1) := by decide +kernel
theorem dX0_bestByPoints_57 : decode cX0_bestByPoints 57 = .ok (.ireturn, 1) := by decide +kernel
theorem dX0_sumOfPoints_0 : decode cX0_sumOfPoints 0 = .ok (.iconst 0, 1) := by decide +kernel
theorem dX0_sumOfPoints_1 : decode cX0_sumOfPoints 1 = .ok (.istore_n 2, 1) := by decide +kernel
theorem dX0_sumOfPoints_2 : decode cX0_sumOfPoints 2 = .ok (.iconst 0, 1) := by decide +kernel
theorem dX0_sumOfPoints_3 : decode cX0_sumOfPoints 3 = .ok (.istore_n 3, 1) := by decide +kernel
theorem dX0_sumOfPoints_4 : decode cX0_sumOfPoints 4 = .ok (.iload_n 3, 1) := by decide +kernel
theorem dX0_sumOfPoints_5 : decode cX0_sumOfPoints 5 = .ok (.aload_n 0, 1) := by decide +kernel
theorem dX0_sumOfPoints_6 : decode cX0_sumOfPoints 6 = .ok (.getfield 53, 3) := by decide +kernel
theorem dX0_sumOfPoints_9 : decode cX0_sumOfPoints 9 = .ok (.if_icmp .ge 26, 3) := by decide +kernel
theorem dX0_sumOfPoints_12 : decode cX0_sumOfPoints 12 = .ok (.iload_n 1, 1) := by decide +kernel
theorem dX0_sumOfPoints_13 : decode cX0_sumOfPoints 13 = .ok (.iload_n 3, 1) := by decide +kernel
theorem dX0_sumOfPoints_14 : decode cX0_sumOfPoints 14 = .ok (.invokestatic 67, 3) := by decide +kernel
theorem dX0_sumOfPoints_17 : decode cX0_sumOfPoints 17 = .ok (.ifCond .eq 12, 3) := by decide +kernel
theorem dX0_sumOfPoints_20 : decode cX0_sumOfPoints 20 = .ok (.iload_n 2, 1) := by decide +kernel
theorem dX0_sumOfPoints_21 : decode cX0_sumOfPoints 21 = .ok (.aload_n 0, 1) := by decide +kernel
theorem dX0_sumOfPoints_22 : decode cX0_sumOfPoints 22 = .ok (.getfield 50, 3) := by decide +kernel
theorem dX0_sumOfPoints_25 : decode cX0_sumOfPoints 25 = .ok (.iload_n 3, 1) := by decide +kernel
theorem dX0_sumOfPoints_26 : decode cX0_sumOfPoints 26 = .ok (.iaload, 1) := by decide +kernel
theorem dX0_sumOfPoints_27 : decode cX0_sumOfPoints 27 = .ok (.iadd, 1) := by decide +kernel
theorem dX0_sumOfPoints_28 : decode cX0_sumOfPoints 28 = .ok (.istore_n 2, 1) := by decide +kernel
theorem dX0_sumOfPoints_29 : decode cX0_sumOfPoints 29 = .ok (.iinc 3 1, 3) := by decide +kernel
theorem dX0_sumOfPoints_32 : decode cX0_sumOfPoints 32 = .ok (.goto (-28), 3) := by decide +kernel
theorem dX0_sumOfPoints_35 : decode cX0_sumOfPoints 35 = .ok (.iload_n 2, 1) := by decide +kernel
theorem dX0_sumOfPoints_36 : decode cX0_sumOfPoints 36 = .ok (.ireturn, 1) := by decide +kernel
theorem dX0_mayPutUp_0 : decode cX0_mayPutUp 0 = .ok (.aload_n 0, 1) := by decide +kernel
theorem dX0_mayPutUp_1 : decode cX0_mayPutUp 1 = .ok (.getfield 60, 3) := by decide +kernel
theorem dX0_mayPutUp_4 : decode cX0_mayPutUp 4 = .ok (.aload_n 0, 1) := by decide +kernel
theorem dX0_mayPutUp_5 : decode cX0_mayPutUp 5 = .ok (.iload_n 1, 1) := by decide +kernel
theorem dX0_mayPutUp_6 : decode cX0_mayPutUp 6 = .ok (.invokevirtual 125, 3) := by decide +kernel
theorem dX0_mayPutUp_9 : decode cX0_mayPutUp 9 = .ok (.iconst (-1), 1) := by decide +kernel
theorem dX0_mayPutUp_10 : decode cX0_mayPutUp 10 = .ok (.ixor, 1) := by decide +kernel
theorem dX0_mayPutUp_11 : decode cX0_mayPutUp 11 = .ok (.iand, 1) := by decide +kernel
theorem dX0_mayPutUp_12 : decode cX0_mayPutUp 12 = .ok (.istore_n 2, 1) := by decide +kernel
theorem dX0_mayPutUp_13 : decode cX0_mayPutUp 13 = .ok (.iconst 0, 1) := by decide +kernel
theorem dX0_mayPutUp_14 : decode cX0_mayPutUp 14 = .ok (.istore_n 3, 1) := by decide +kernel
theorem dX0_mayPutUp_15 : decode cX0_mayPutUp 15 = .ok (.iload_n 3, 1) := by decide +kernel
theorem dX0_mayPutUp_16 : decode cX0_mayPutUp 16 = .ok (.aload_n 0, 1) := by decide +kernel
theorem dX0_mayPutUp_17 : decode cX0_mayPutUp 17 = .ok (.getfield 53, 3) := by decide +kernel
theorem dX0_mayPutUp_20 : decode cX0_mayPutUp 20 = .ok (.if_icmp .ge 26, 3) := by decide +kernel
theorem dX0_mayPutUp_23 : decode cX0_mayPutUp 23 = .ok (.aload_n 0, 1) := by decide +kernel
theorem dX0_mayPutUp_24 : decode cX0_mayPutUp 24 = .ok (.iload_n 1, 1) := by decide +kernel
theorem dX0_mayPutUp_25 : decode cX0_mayPutUp 25 = .ok (.iload_n 3, 1) := by decide +kernel
theorem dX0_mayPutUp_26 : decode cX0_mayPutUp 26 = .ok (.invokevirtual 146, 3) := by decide +kernel
theorem dX0_mayPutUp_29 : decode cX0_mayPutUp 29 = .ok (.ifCond .le 11, 3) := by decide +kernel
theorem dX0_mayPutUp_32 : decode cX0_mayPutUp 32 = .ok (.iload_n 2, 1) := by decide +kernel
theorem dX0_mayPutUp_33 : decode cX0_mayPutUp 33 = .ok (.iconst 1, 1) := by decide +kernel
theorem dX0_mayPutUp_34 : decode cX0_mayPutUp 34 = .ok (.iload_n 3, 1) := by decide +kernel
theorem dX0_mayPutUp_35 : decode cX0_mayPutUp 35 = .ok (.ishl, 1) := by decide +kernel
theorem dX0_mayPutUp_36 : decode cX0_mayPutUp 36 = .ok (.iconst (-1), 1) := by decide +kernel
theorem dX0_mayPutUp_37 : decode cX0_mayPutUp 37 = .ok (.ixor, 1) := by decide +kernel
theorem dX0_mayPutUp_38 : decode cX0_mayPutUp 38 = .ok (.iand, 1) := by decide +kernel
theorem dX0_mayPutUp_39 : decode cX0_mayPutUp 39 = .ok (.istore_n 2, 1) := by decide +kernel
theorem dX0_mayPutUp_40 : decode cX0_mayPutUp 40 = .ok (.iinc 3 1, 3) := by decide +kernel
theorem dX0_mayPutUp_43 : decode cX0_mayPutUp 43 = .ok (.goto (-28), 3) := by decide +kernel
theorem dX0_mayPutUp_46 : decode cX0_mayPutUp 46 = .ok (.iload_n 2, 1) := by decide +kernel
theorem dX0_mayPutUp_47 : decode cX0_mayPutUp 47 = .ok (.ireturn, 1) := by decide +kernel
theorem dX0_isTurnOfNew_0 : decode cX0_isTurnOfNew 0 = .ok (.aload_n 0, 1) := by decide +kernel
theorem dX0_isTurnOfNew_1 : decode cX0_isTurnOfNew 1 = .ok (.getfield 18, 3) := by decide +kernel
theorem dX0_isTurnOfNew_4 : decode cX0_isTurnOfNew 4 = .ok (.iconst 2, 1) := by decide +kernel
theorem dX0_isTurnOfNew_5 : decode cX0_isTurnOfNew 5 = .ok (.iaload, 1) := by decide +kernel
theorem dX0_isTurnOfNew_6 : decode cX0_isTurnOfNew 6 = .ok (.istore_n 2, 1) := by decide +kernel
theorem dX0_isTurnOfNew_7 : decode cX0_isTurnOfNew 7 = .ok (.iload_n 2, 1) := by decide +kernel
theorem dX0_isTurnOfNew_8 : decode cX0_isTurnOfNew 8 = .ok (.ifCond .le 20, 3) := by decide +kernel
theorem dX0_isTurnOfNew_11 : decode cX0_isTurnOfNew 11 = .ok (.aload_n 0, 1) := by decide +kernel
theorem dX0_isTurnOfNew_12 : decode cX0_isTurnOfNew 12 = .ok (.getfield 39, 3) := by decide +kernel
theorem dX0_isTurnOfNew_15 : decode cX0_isTurnOfNew 15 = .ok (.iload_n 1, 1) := by decide +kernel
theorem dX0_isTurnOfNew_16 : decode cX0_isTurnOfNew 16 = .ok (.iaload, 1) := by decide +kernel
theorem dX0_isTurnOfNew_17 : decode cX0_isTurnOfNew 17 = .ok (.iconst 1, 1) := by decide +kernel
theorem dX0_isTurnOfNew_18 : decode cX0_isTurnOfNew 18 = .ok (.iadd, 1) := by decide +kernel
theorem dX0_isTurnOfNew_19 : decode cX0_isTurnOfNew 19 = .ok (.iload_n 2, 1) := by decide +kernel
theorem dX0_isTurnOfNew_20 : decode cX0_isTurnOfNew 20 = .ok (.irem, 1) := by decide +kernel
theorem dX0_isTurnOfNew_21 : decode cX0_isTurnOfNew 21 = .ok (.ifCond .ne 7, 3) := by decide +kernel
theorem dX0_isTurnOfNew_24 : decode cX0_isTurnOfNew 24 = .ok (.iconst 1, 1) := by decide +kernel
theorem dX0_isTurnOfNew_25 : decode cX0_isTurnOfNew 25 = .ok (.goto 4, 3) := by decide +kernel
theorem dX0_isTurnOfNew_28 : decode cX0_isTurnOfNew 28 = .ok (.iconst 0, 1) := by decide +kernel
theorem dX0_isTurnOfNew_29 : decode cX0_isTurnOfNew 29 = .ok (.ireturn, 1) := by decide +kernel
theorem dX0_keepsRules_0 : decode cX0_keepsRules 0 = .ok (.iconst 0, 1) := by decide +kernel
theorem dX0_keepsRules_1 : decode cX0_keepsRules 1 = .ok (.istore_n 2, 1) := by decide +kernel
theorem dX0_keepsRules_2 : decode cX0_keepsRules 2 = .ok (.iload_n 2, 1) := by decide +kernel
theorem dX0_keepsRules_3 : decode cX0_keepsRules 3 = .ok (.iconst 4, 1) := by decide +kernel
theorem dX0_keepsRules_4 : decode cX0_keepsRules 4 = .ok (.if_icmp .ge 31, 3) := by decide +kernel
theorem dX0_keepsRules_7 : decode cX0_keepsRules 7 = .ok (.iload_n 1, 1) := by decide +kernel
theorem dX0_keepsRules_8 : decode cX0_keepsRules 8 = .ok (.aload_n 0, 1) := by decide +kernel
theorem dX0_keepsRules_9 : decode cX0_keepsRules 9 = .ok (.getfield 24, 3) := by decide +kernel
theorem dX0_keepsRules_12 : decode cX0_keepsRules 12 = .ok (.iload_n 2, 1) := by decide +kernel
theorem dX0_keepsRules_13 : decode cX0_keepsRules 13 = .ok (.iaload, 1) := by decide +kernel
theorem dX0_keepsRules_14 : decode cX0_keepsRules 14 = .ok (.iand, 1) := by decide +kernel
theorem dX0_keepsRules_15 : decode cX0_keepsRules 15 = .ok (.invokestatic 149, 3) := by decide +kernel
theorem dX0_keepsRules_18 : decode cX0_keepsRules 18 = .ok (.aload_n 0, 1) := by decide +kernel
theorem dX0_keepsRules_19 : decode cX0_keepsRules 19 = .ok (.getfield 18, 3) := by decide +kernel
theorem dX0_keepsRules_22 : decode cX0_keepsRules 22 = .ok (.iconst 1, 1) := by decide +kernel
theorem dX0_keepsRules_23 : decode cX0_keepsRules 23 = .ok (.iaload, 1) := by decide +kernel
theorem dX0_keepsRules_24 : decode cX0_keepsRules 24 = .ok (.if_icmp .le 5, 3) := by decide +kernel
theorem dX0_keepsRules_27 : decode cX0_keepsRules 27 = .ok (.iconst 0, 1) := by decide +kernel
theorem dX0_keepsRules_28 : decode cX0_keepsRules 28 = .ok (.ireturn, 1) := by decide +kernel
theorem dX0_keepsRules_29 : decode cX0_keepsRules 29 = .ok (.iinc 2 1, 3) := by decide +kernel
theorem dX0_keepsRules_32 : decode cX0_keepsRules 32 = .ok (.goto (-30), 3) := by decide +kernel
theorem dX0_keepsRules_35 : decode cX0_keepsRules 35 = .ok (.iconst 0, 1) := by decide +kernel
theorem dX0_keepsRules_36 : decode cX0_keepsRules 36 = .ok (.istore_n 2, 1) := by decide +kernel
theorem dX0_keepsRules_37 : decode cX0_keepsRules 37 = .ok (.iload_n 2, 1) := by decide +kernel
theorem dX0_keepsRules_38 : decode cX0_keepsRules 38 = .ok (.aload_n 0, 1) := by decide +kernel
theorem dX0_keepsRules_39 : decode cX0_keepsRules 39 = .ok (.getfield 53, 3) := by decide +kernel
theorem dX0_keepsRules_42 : decode cX0_keepsRules 42 = .ok (.if_icmp .ge 30, 3) := by decide +kernel
theorem dX0_keepsRules_45 : decode cX0_keepsRules 45 = .ok (.iload_n 1, 1) := by decide +kernel
theorem dX0_keepsRules_46 : decode cX0_keepsRules 46 = .ok (.iload_n 2, 1) := by decide +kernel
theorem dX0_keepsRules_47 : decode cX0_keepsRules 47 = .ok (.invokestatic 67, 3) := by decide +kernel
theorem dX0_keepsRules_50 : decode cX0_keepsRules 50 = .ok (.ifCond .eq 16, 3) := by decide +kernel
theorem dX0_keepsRules_53 : decode cX0_keepsRules 53 = .ok (.iload_n 1, 1) := by decide +kernel
theorem dX0_keepsRules_54 : decode cX0_keepsRules 54 = .ok (.aload_n 0, 1) := by decide +kernel
theorem dX0_keepsRules_55 : decode cX0_keepsRules 55 = .ok (.getfield 27, 3) := by decide +kernel
theorem dX0_keepsRules_58 : decode cX0_keepsRules 58 = .ok (.iload_n 2, 1) := by decide +kernel
theorem dX0_keepsRules_59 : decode cX0_keepsRules 59 = .ok (.iaload, 1) := by decide +kernel
theorem dX0_keepsRules_60 : decode cX0_keepsRules 60 = .ok (.iand, 1) := by decide +kernel
theorem dX0_keepsRules_61 : decode cX0_keepsRules 61 = .ok (.ifCond .eq 5, 3) := by decide +kernel
theorem dX0_keepsRules_64 : decode cX0_keepsRules 64 = .ok (.iconst 0, 1) := by decide +kernel
theorem dX0_keepsRules_65 : decode cX0_keepsRules 65 = .ok (.ireturn, 1) := by decide +kernel
theorem dX0_keepsRules_66 : decode cX0_keepsRules 66 = .ok (.iinc 2 1, 3) := by decide +kernel
theorem dX0_keepsRules_69 : decode cX0_keepsRules 69 = .ok (.goto (-32), 3) := by decide +kernel
theorem dX0_keepsRules_72 : decode cX0_keepsRules 72 = .ok (.iconst 1, 1) := by decide +kernel
theorem dX0_keepsRules_73 : decode cX0_keepsRules 73 = .ok (.ireturn, 1) := by decide +kernel
theorem dX0_bestList_0 : decode cX0_bestList 0 = .ok (.aload_n 0, 1) := by decide +kernel
theorem dX0_bestList_1 : decode cX0_bestList 1 = .ok (.iload_n 1, 1) := by decide +kernel
theorem dX0_bestList_2 : decode cX0_bestList 2 = .ok (.invokevirtual 131, 3) := by decide +kernel
theorem dX0_bestList_5 : decode cX0_bestList 5 = .ok (.istore_n 3, 1) := by decide +kernel
theorem dX0_bestList_6 : decode cX0_bestList 6 = .ok (.aload_n 0, 1) := by decide +kernel
theorem dX0_bestList_7 : decode cX0_bestList 7 = .ok (.iload_n 1, 1) := by decide +kernel
theorem dX0_bestList_8 : decode cX0_bestList 8 = .ok (.invokevirtual 154, 3) := by decide +kernel
theorem dX0_bestList_11 : decode cX0_bestList 11 = .ok (.ifCond .eq 12, 3) := by decide +kernel
theorem dX0_bestList_14 : decode cX0_bestList 14 = .ok (.iload_n 3, 1) := by decide +kernel
theorem dX0_bestList_15 : decode cX0_bestList 15 = .ok (.aload_n 0, 1) := by decide +kernel
theorem dX0_bestList_16 : decode cX0_bestList 16 = .ok (.invokevirtual 104, 3) := by decide +kernel
theorem dX0_bestList_19 : decode cX0_bestList 19 = .ok (.iand, 1) := by decide +kernel
theorem dX0_bestList_20 : decode cX0_bestList 20 = .ok (.goto 4, 3) := by decide +kernel
theorem dX0_bestList_23 : decode cX0_bestList 23 = .ok (.iconst 0, 1) := by decide +kernel
theorem dX0_bestList_24 : decode cX0_bestList 24 = .ok (.istore 4, 2) := by decide +kernel
theorem dX0_bestList_26 : decode cX0_bestList 26 = .ok (.aload_n 0, 1) := by decide +kernel
theorem dX0_bestList_27 : decode cX0_bestList 27 = .ok (.iload_n 1, 1) := by decide +kernel
theorem dX0_bestList_28 : decode cX0_bestList 28 = .ok (.iload_n 3, 1) := by decide +kernel
theorem dX0_bestList_29 : decode cX0_bestList 29 = .ok (.invokevirtual 157, 3) := by decide +kernel
theorem dX0_bestList_32 : decode cX0_bestList 32 = .ok (.iconst 0, 1) := by decide +kernel
theorem dX0_bestList_33 : decode cX0_bestList 33 = .ok (.istore 5, 2) := by decide +kernel
theorem dX0_bestList_35 : decode cX0_bestList 35 = .ok (.iconst 0, 1) := by decide +kernel
theorem dX0_bestList_36 : decode cX0_bestList 36 = .ok (.istore 6, 2) := by decide +kernel
theorem dX0_bestList_38 : decode cX0_bestList 38 = .ok (.iconst 0, 1) := by decide +kernel
theorem dX0_bestList_39 : decode cX0_bestList 39 = .ok (.istore 7, 2) := by decide +kernel
theorem dX0_bestList_41 : decode cX0_bestList 41 = .ok (.iconst 0, 1) := by decide +kernel
theorem dX0_bestList_42 : decode cX0_bestList 42 = .ok (.istore 8, 2) := by decide +kernel
theorem dX0_bestList_44 : decode cX0_bestList 44 = .ok (.iconst 1, 1) := by decide +kernel
theorem dX0_bestList_45 : decode cX0_bestList 45 = .ok (.iload_n 3, 1) := by decide +kernel
theorem dX0_bestList_46 : decode cX0_bestList 46 = .ok (.invokestatic 149, 3) := by decide +kernel
theorem dX0_bestList_49 : decode cX0_bestList 49 = .ok (.ishl, 1) := by decide +kernel
theorem dX0_bestList_50 : decode cX0_bestList 50 = .ok (.istore 9, 2) := by decide +kernel
theorem dX0_bestList_52 : decode cX0_bestList 52 = .ok (.iconst 1, 1) := by decide +kernel
theorem dX0_bestList_53 : decode cX0_bestList 53 = .ok (.istore 10, 2) := by decide +kernel
theorem dX0_bestList_55 : decode cX0_bestList 55 = .ok (.iload 10, 2) := by decide +kernel
theorem dX0_bestList_57 : decode cX0_bestList 57 = .ok (.iload 9, 2) := by decide +kernel
theorem dX0_bestList_59 : decode cX0_bestList 59 = .ok (.if_icmp .ge 105, 3) := by decide +kernel
theorem dX0_bestList_62 : decode cX0_bestList 62 = .ok (.iload 8, 2) := by decide +kernel
theorem dX0_bestList_64 : decode cX0_bestList 64 = .ok (.iload_n 3, 1) := by decide +kernel
theorem dX0_bestList_65 : decode cX0_bestList 65 = .ok (.isub, 1) := by decide +kernel
theorem dX0_bestList_66 : decode cX0_bestList 66 = .ok (.iload_n 3, 1) := by decide +kernel
theorem dX0_bestList_67 : decode cX0_bestList 67 = .ok (.iand, 1) := by decide +kernel
theorem dX0_bestList_68 : decode cX0_bestList 68 = .ok (.istore 8, 2) := by decide +kernel
theorem dX0_bestList_70 : decode cX0_bestList 70 = .ok (.iload 8, 2) := by decide +kernel
theorem dX0_bestList_72 : decode cX0_bestList 72 = .ok (.invokestatic 149, 3) := by decide +kernel
theorem dX0_bestList_75 : decode cX0_bestList 75 = .ok (.istore 11, 2) := by decide +kernel
theorem dX0_bestList_77 : decode cX0_bestList 77 = .ok (.iload 11, 2) := by decide +kernel
theorem dX0_bestList_79 : decode cX0_bestList 79 = .ok (.iload_n 2, 1) := by decide +kernel
theorem dX0_bestList_80 : decode cX0_bestList 80 = .ok (.if_icmp .gt 27, 3) := by decide +kernel
theorem dX0_bestList_83 : decode cX0_bestList 83 = .ok (.iload 11, 2) := by decide +kernel
theorem dX0_bestList_85 : decode cX0_bestList 85 = .ok (.iload 6, 2) := by decide +kernel
theorem dX0_bestList_87 : decode cX0_bestList 87 = .ok (.if_icmp .lt 20, 3) := by decide +kernel
theorem dX0_bestList_90 : decode cX0_bestList 90 = .ok (.iload 4, 2) := by decide +kernel
theorem dX0_bestList_92 : decode cX0_bestList 92 = .ok (.ifCond .eq 11, 3) := by decide +kernel
theorem dX0_bestList_95 : decode cX0_bestList 95 = .ok (.iload 8, 2) := by decide +kernel
theorem dX0_bestList_97 : decode cX0_bestList 97 = .ok (.iload 4, 2) := by decide +kernel
theorem dX0_bestList_99 : decode cX0_bestList 99 = .ok (.iand, 1) := by decide +kernel
theorem dX0_bestList_100 : decode cX0_bestList 100 = .ok (.ifCond .eq 7, 3) := by decide +kernel
theorem dX0_bestList_103 : decode cX0_bestList 103 = .ok (.iconst 1, 1) := by decide +kernel
theorem dX0_bestList_104 : decode cX0_bestList 104 = .ok (.goto 4, 3) := by decide +kernel
theorem dX0_bestList_107 : decode cX0_bestList 107 = .ok (.iconst 0, 1) := by decide +kernel
theorem dX0_bestList_108 : decode cX0_bestList 108 = .ok (.istore 12, 2) := by decide +kernel
theorem dX0_bestList_110 : decode cX0_bestList 110 = .ok (.iload 12, 2) := by decide +kernel
theorem dX0_bestList_112 : decode cX0_bestList 112 = .ok (.ifCond .eq 46, 3) := by decide +kernel
theorem dX0_bestList_115 : decode cX0_bestList 115 = .ok (.aload_n 0, 1) := by decide +kernel
theorem dX0_bestList_116 : decode cX0_bestList 116 = .ok (.iload 8, 2) := by decide +kernel
theorem dX0_bestList_118 : decode cX0_bestList 118 = .ok (.invokevirtual 160, 3) := by decide +kernel
theorem dX0_bestList_121 : decode cX0_bestList 121 = .ok (.ifCond .eq 37, 3) := by decide +kernel
theorem dX0_bestList_124 : decode cX0_bestList 124 = .ok (.aload_n 0, 1) := by decide +kernel
theorem dX0_bestList_125 : decode cX0_bestList 125 = .ok (.iload 8, 2) := by decide +kernel
theorem dX0_bestList_127 : decode cX0_bestList 127 = .ok (.invokevirtual 140, 3) := by decide +kernel
theorem dX0_bestList_130 : decode cX0_bestList 130 = .ok (.istore 13, 2) := by decide +kernel
theorem dX0_bestList_132 : decode cX0_bestList 132 = .ok (.iload 11, 2) := by decide +kernel
theorem dX0_bestList_134 : decode cX0_bestList 134 = .ok (.iload 6, 2) := by decide +kernel
theorem dX0_bestList_136 : decode cX0_bestList 136 = .ok (.if_icmp .gt 10, 3) := by decide +kernel
theorem dX0_bestList_139 : decode cX0_bestList 139 = .ok (.iload 13, 2) := by decide +kernel
theorem dX0_bestList_141 : decode cX0_bestList 141 = .ok (.iload 7, 2) := by decide +kernel
theorem dX0_bestList_143 : decode cX0_bestList 143 = .ok (.if_icmp .le 15, 3) := by decide +kernel
theorem dX0_bestList_146 : decode cX0_bestList 146 = .ok (.iload 8, 2) := by decide +kernel
theorem dX0_bestList_148 : decode cX0_bestList 148 = .ok (.istore 5, 2) := by decide +kernel
theorem dX0_bestList_150 : decode cX0_bestList 150 = .ok (.iload 11, 2) := by decide +kernel
theorem dX0_bestList_152 : decode cX0_bestList 152 = .ok (.istore 6, 2) := by decide +kernel
theorem dX0_bestList_154 : decode cX0_bestList 154 = .ok (.iload 13, 2) := by decide +kernel
theorem dX0_bestList_156 : decode cX0_bestList 156 = .ok (.istore 7, 2) := by decide +kernel
theorem dX0_bestList_158 : decode cX0_bestList 158 = .ok (.iinc 10 1, 3) := by decide +kernel
theorem dX0_bestList_161 : decode cX0_bestList 161 = .ok (.goto (-106), 3) := by decide +kernel
theorem dX0_bestList_164 : decode cX0_bestList 164 = .ok (.iload 5, 2) := by decide +kernel
theorem dX0_bestList_166 : decode cX0_bestList 166 = .ok (.ireturn, 1) := by decide +kernel
theorem dX0_daysTired_0 : decode cX0_daysTired 0 = .ok (.iconst 0, 1) := by decide +kernel
theorem dX0_daysTired_1 : decode cX0_daysTired 1 = .ok (.aload_n 0, 1) := by decide +kernel
theorem dX0_daysTired_2 : decode cX0_daysTired 2 = .ok (.getfield 47, 3) := by decide +kernel
theorem dX0_daysTired_5 : decode cX0_daysTired 5 = .ok (.iload_n 1, 1) := by decide +kernel
theorem dX0_daysTired_6 : decode cX0_daysTired 6 = .ok (.aaload, 1) := by decide +kernel
theorem dX0_daysTired_7 : decode cX0_daysTired 7 = .ok (.iload_n 2, 1) := by decide +kernel
theorem dX0_daysTired_8 : decode cX0_daysTired 8 = .ok (.iaload, 1) := by decide +kernel
theorem dX0_daysTired_9 : decode cX0_daysTired 9 = .ok (.aload_n 0, 1) := by decide +kernel
theorem dX0_daysTired_10 : decode cX0_daysTired 10 = .ok (.getfield 57, 3) := by decide +kernel
theorem dX0_daysTired_13 : decode cX0_daysTired 13 = .ok (.isub, 1) := by decide +kernel
theorem dX0_daysTired_14 : decode cX0_daysTired 14 = .ok (.invokestatic 163, 3) := by decide +kernel
theorem dX0_daysTired_17 : decode cX0_daysTired 17 = .ok (.ireturn, 1) := by decide +kernel
theorem dX0_showOnce_0 : decode cX0_showOnce 0 = .ok (.aload_n 0, 1) := by decide +kernel
theorem dX0_showOnce_1 : decode cX0_showOnce 1 = .ok (.getfield 44, 3) := by decide +kernel
theorem dX0_showOnce_4 : decode cX0_showOnce 4 = .ok (.iload_n 1, 1) := by decide +kernel
theorem dX0_showOnce_5 : decode cX0_showOnce 5 = .ok (.aaload, 1) := by decide +kernel
theorem dX0_showOnce_6 : decode cX0_showOnce 6 = .ok (.iload_n 2, 1) := by decide +kernel
theorem dX0_showOnce_7 : decode cX0_showOnce 7 = .ok (.dup2, 1) := by decide +kernel
theorem dX0_showOnce_8 : decode cX0_showOnce 8 = .ok (.iaload, 1) := by decide +kernel
theorem dX0_showOnce_9 : decode cX0_showOnce 9 = .ok (.iconst 1, 1) := by decide +kernel
theorem dX0_showOnce_10 : decode cX0_showOnce 10 = .ok (.iadd, 1) := by decide +kernel
theorem dX0_showOnce_11 : decode cX0_showOnce 11 = .ok (.iastore, 1) := by decide +kernel
theorem dX0_showOnce_12 : decode cX0_showOnce 12 = .ok (.aload_n 0, 1) := by decide +kernel
theorem dX0_showOnce_13 : decode cX0_showOnce 13 = .ok (.getfield 44, 3) := by decide +kernel
theorem dX0_showOnce_16 : decode cX0_showOnce 16 = .ok (.iload_n 1, 1) := by decide +kernel
theorem dX0_showOnce_17 : decode cX0_showOnce 17 = .ok (.aaload, 1) := by decide +kernel
theorem dX0_showOnce_18 : decode cX0_showOnce 18 = .ok (.iload_n 2, 1) := by decide +kernel
theorem dX0_showOnce_19 : decode cX0_showOnce 19 = .ok (.iaload, 1) := by decide +kernel
theorem dX0_showOnce_20 : decode cX0_showOnce 20 = .ok (.aload_n 0, 1) := by decide +kernel
theorem dX0_showOnce_21 : decode cX0_showOnce 21 = .ok (.getfield 18, 3) := by decide +kernel
theorem dX0_showOnce_24 : decode cX0_showOnce 24 = .ok (.iconst 3, 1) := by decide +kernel
theorem dX0_showOnce_25 : decode cX0_showOnce 25 = .ok (.iaload, 1) := by decide +kernel
theorem dX0_showOnce_26 : decode cX0_showOnce 26 = .ok (.if_icmp .lt 27, 3) := by decide +kernel
theorem dX0_showOnce_29 : decode cX0_showOnce 29 = .ok (.aload_n 0, 1) := by decide +kernel
theorem dX0_showOnce_30 : decode cX0_showOnce 30 = .ok (.getfield 44, 3) := by decide +kernel
theorem dX0_showOnce_33 : decode cX0_showOnce 33 = .ok (.iload_n 1, 1) := by decide +kernel
theorem dX0_showOnce_34 : decode cX0_showOnce 34 = .ok (.aaload, 1) := by decide +kernel
theorem dX0_showOnce_35 : decode cX0_showOnce 35 = .ok (.iload_n 2, 1) := by decide +kernel
theorem dX0_showOnce_36 : decode cX0_showOnce 36 = .ok (.iconst 0, 1) := by decide +kernel
theorem dX0_showOnce_37 : decode cX0_showOnce 37 = .ok (.iastore, 1) := by decide +kernel
theorem dX0_showOnce_38 : decode cX0_showOnce 38 = .ok (.aload_n 0, 1) := by decide +kernel
theorem dX0_showOnce_39 : decode cX0_showOnce 39 = .ok (.getfield 47, 3) := by decide +kernel
theorem dX0_showOnce_42 : decode cX0_showOnce 42 = .ok (.iload_n 1, 1) := by decide +kernel
theorem dX0_showOnce_43 : decode cX0_showOnce 43 = .ok (.aaload, 1) := by decide +kernel
theorem dX0_showOnce_44 : decode cX0_showOnce 44 = .ok (.iload_n 2, 1) := by decide +kernel
theorem dX0_showOnce_45 : decode cX0_showOnce 45 = .ok (.aload_n 0, 1) := by decide +kernel
theorem dX0_showOnce_46 : decode cX0_showOnce 46 = .ok (.getfield 57, 3) := by decide +kernel
theorem dX0_showOnce_49 : decode cX0_showOnce 49 = .ok (.bipush 7, 2) := by decide +kernel
theorem dX0_showOnce_51 : decode cX0_showOnce 51 = .ok (.iadd, 1) := by decide +kernel
theorem dX0_showOnce_52 : decode cX0_showOnce 52 = .ok (.iastore, 1) := by decide +kernel
theorem dX0_showOnce_53 : decode cX0_showOnce 53 = .ok (.return_, 1) := by decide +kernel
theorem dX0_clearShown_0 : decode cX0_clearShown 0 = .ok (.iconst 0, 1) := by decide +kernel
theorem dX0_clearShown_1 : decode cX0_clearShown 1 = .ok (.istore_n 3, 1) := by decide +kernel
theorem dX0_clearShown_2 : decode cX0_clearShown 2 = .ok (.iload_n 3, 1) := by decide +kernel
theorem dX0_clearShown_3 : decode cX0_clearShown 3 = .ok (.aload_n 0, 1) := by decide +kernel
theorem dX0_clearShown_4 : decode cX0_clearShown 4 = .ok (.getfield 53, 3) := by decide +kernel
theorem dX0_clearShown_7 : decode cX0_clearShown 7 = .ok (.if_icmp .ge 35, 3) := by decide +kernel
theorem dX0_clearShown_10 : decode cX0_clearShown 10 = .ok (.iload_n 2, 1) := by decide +kernel
theorem dX0_clearShown_11 : decode cX0_clearShown 11 = .ok (.iload_n 3, 1) := by decide +kernel
theorem dX0_clearShown_12 : decode cX0_clearShown 12 = .ok (.invokestatic 67, 3) := by decide +kernel
theorem dX0_clearShown_15 : decode cX0_clearShown 15 = .ok (.ifCond .eq 21, 3) := by decide +kernel
theorem dX0_clearShown_18 : decode cX0_clearShown 18 = .ok (.aload_n 0, 1) := by decide +kernel
theorem dX0_clearShown_19 : decode cX0_clearShown 19 = .ok (.getfield 44, 3) := by decide +kernel
theorem dX0_clearShown_22 : decode cX0_clearShown 22 = .ok (.iload_n 1, 1) := by decide +kernel
theorem dX0_clearShown_23 : decode cX0_clearShown 23 = .ok (.aaload, 1) := by decide +kernel
theorem dX0_clearShown_24 : decode cX0_clearShown 24 = .ok (.iload_n 3, 1) := by decide +kernel
theorem dX0_clearShown_25 : decode cX0_clearShown 25 = .ok (.iconst 0, 1) := by decide +kernel
theorem dX0_clearShown_26 : decode cX0_clearShown 26 = .ok (.iastore, 1) := by decide +kernel
theorem dX0_clearShown_27 : decode cX0_clearShown 27 = .ok (.aload_n 0, 1) := by decide +kernel
theorem dX0_clearShown_28 : decode cX0_clearShown 28 = .ok (.getfield 47, 3) := by decide +kernel
theorem dX0_clearShown_31 : decode cX0_clearShown 31 = .ok (.iload_n 1, 1) := by decide +kernel
theorem dX0_clearShown_32 : decode cX0_clearShown 32 = .ok (.aaload, 1) := by decide +kernel
theorem dX0_clearShown_33 : decode cX0_clearShown 33 = .ok (.iload_n 3, 1) := by decide +kernel
theorem dX0_clearShown_34 : decode cX0_clearShown 34 = .ok (.iconst 0, 1) := by decide +kernel
theorem dX0_clearShown_35 : decode cX0_clearShown 35 = .ok (.iastore, 1) := by decide +kernel
theorem dX0_clearShown_36 : decode cX0_clearShown 36 = .ok (.iinc 3 1, 3) := by decide +kernel
theorem dX0_clearShown_39 : decode cX0_clearShown 39 = .ok (.goto (-37), 3) := by decide +kernel
theorem dX0_clearShown_42 : decode cX0_clearShown 42 = .ok (.return_, 1) := by decide +kernel
theorem dJ6_bitCount_0f7a4_0 : decode cJ6_bitCount_0f7a4 0 = .ok (.iload_n 0, 1) := by decide +kernel
theorem dJ6_bitCount_0f7a4_1 : decode cJ6_bitCount_0f7a4 1 = .ok (.iload_n 0, 1) := by decide +kernel
theorem dJ6_bitCount_0f7a4_2 : decode cJ6_bitCount_0f7a4 2 = .ok (.iconst 1, 1) := by decide +kernel
theorem dJ6_bitCount_0f7a4_3 : decode cJ6_bitCount_0f7a4 3 = .ok (.iushr, 1) := by decide +kernel
theorem dJ6_bitCount_0f7a4_4 : decode cJ6_bitCount_0f7a4 4 = .ok (.ldc_w 265, 3) := by decide +kernel
theorem dJ6_bitCount_0f7a4_7 : decode cJ6_bitCount_0f7a4 7 = .ok (.iand, 1) := by decide +kernel
theorem dJ6_bitCount_0f7a4_8 : decode cJ6_bitCount_0f7a4 8 = .ok (.isub, 1) := by decide +kernel
theorem dJ6_bitCount_0f7a4_9 : decode cJ6_bitCount_0f7a4 9 = .ok (.istore_n 0, 1) := by decide +kernel
theorem dJ6_bitCount_0f7a4_10 : decode cJ6_bitCount_0f7a4 10 = .ok (.iload_n 0, 1) := by decide +kernel
theorem dJ6_bitCount_0f7a4_11 : decode cJ6_bitCount_0f7a4 11 = .ok (.ldc_w 266, 3) := by decide +kernel
theorem dJ6_bitCount_0f7a4_14 : decode cJ6_bitCount_0f7a4 14 = .ok (.iand, 1) := by decide +kernel
theorem dJ6_bitCount_0f7a4_15 : decode cJ6_bitCount_0f7a4 15 = .ok (.iload_n 0, 1) := by decide +kernel
theorem dJ6_bitCount_0f7a4_16 : decode cJ6_bitCount_0f7a4 16 = .ok (.iconst 2, 1) := by decide +kernel
theorem dJ6_bitCount_0f7a4_17 : decode cJ6_bitCount_0f7a4 17 = .ok (.iushr, 1) := by decide +kernel
theorem dJ6_bitCount_0f7a4_18 : decode cJ6_bitCount_0f7a4 18 = .ok (.ldc_w 266, 3) := by decide +kernel
theorem dJ6_bitCount_0f7a4_21 : decode cJ6_bitCount_0f7a4 21 = .ok (.iand, 1) := by decide +kernel
theorem dJ6_bitCount_0f7a4_22 : decode cJ6_bitCount_0f7a4 22 = .ok (.iadd, 1) := by decide +kernel
theorem dJ6_bitCount_0f7a4_23 : decode cJ6_bitCount_0f7a4 23 = .ok (.istore_n 0, 1) := by decide +kernel
theorem dJ6_bitCount_0f7a4_24 : decode cJ6_bitCount_0f7a4 24 = .ok (.iload_n 0, 1) := by decide +kernel
theorem dJ6_bitCount_0f7a4_25 : decode cJ6_bitCount_0f7a4 25 = .ok (.iload_n 0, 1) := by decide +kernel
theorem dJ6_bitCount_0f7a4_26 : decode cJ6_bitCount_0f7a4 26 = .ok (.iconst 4, 1) := by decide +kernel
theorem dJ6_bitCount_0f7a4_27 : decode cJ6_bitCount_0f7a4 27 = .ok (.iushr, 1) := by decide +kernel
theorem dJ6_bitCount_0f7a4_28 : decode cJ6_bitCount_0f7a4 28 = .ok (.iadd, 1) := by decide +kernel
theorem dJ6_bitCount_0f7a4_29 : decode cJ6_bitCount_0f7a4 29 = .ok (.ldc_w 267, 3) := by decide +kernel
theorem dJ6_bitCount_0f7a4_32 : decode cJ6_bitCount_0f7a4 32 = .ok (.iand, 1) := by decide +kernel
theorem dJ6_bitCount_0f7a4_33 : decode cJ6_bitCount_0f7a4 33 = .ok (.istore_n 0, 1) := by decide +kernel
theorem dJ6_bitCount_0f7a4_34 : decode cJ6_bitCount_0f7a4 34 = .ok (.iload_n 0, 1) := by decide +kernel
theorem dJ6_bitCount_0f7a4_35 : decode cJ6_bitCount_0f7a4 35 = .ok (.iload_n 0, 1) := by decide +kernel
theorem dJ6_bitCount_0f7a4_36 : decode cJ6_bitCount_0f7a4 36 = .ok (.bipush 8, 2) := by decide +kernel
theorem dJ6_bitCount_0f7a4_38 : decode cJ6_bitCount_0f7a4 38 = .ok (.iushr, 1) := by decide +kernel
theorem dJ6_bitCount_0f7a4_39 : decode cJ6_bitCount_0f7a4 39 = .ok (.iadd, 1) := by decide +kernel
theorem dJ6_bitCount_0f7a4_40 : decode cJ6_bitCount_0f7a4 40 = .ok (.istore_n 0, 1) := by decide +kernel
theorem dJ6_bitCount_0f7a4_41 : decode cJ6_bitCount_0f7a4 41 = .ok (.iload_n 0, 1) := by decide +kernel
theorem dJ6_bitCount_0f7a4_42 : decode cJ6_bitCount_0f7a4 42 = .ok (.iload_n 0, 1) := by decide +kernel
theorem dJ6_bitCount_0f7a4_43 : decode cJ6_bitCount_0f7a4 43 = .ok (.bipush 16, 2) := by decide +kernel
theorem dJ6_bitCount_0f7a4_45 : decode cJ6_bitCount_0f7a4 45 = .ok (.iushr, 1) := by decide +kernel
theorem dJ6_bitCount_0f7a4_46 : decode cJ6_bitCount_0f7a4 46 = .ok (.iadd, 1) := by decide +kernel
theorem dJ6_bitCount_0f7a4_47 : decode cJ6_bitCount_0f7a4 47 = .ok (.istore_n 0, 1) := by decide +kernel
theorem dJ6_bitCount_0f7a4_48 : decode cJ6_bitCount_0f7a4 48 = .ok (.iload_n 0, 1) := by decide +kernel
theorem dJ6_bitCount_0f7a4_49 : decode cJ6_bitCount_0f7a4 49 = .ok (.bipush 63, 2) := by decide +kernel
theorem dJ6_bitCount_0f7a4_51 : decode cJ6_bitCount_0f7a4 51 = .ok (.iand, 1) := by decide +kernel
theorem dJ6_bitCount_0f7a4_52 : decode cJ6_bitCount_0f7a4 52 = .ok (.ireturn, 1) := by decide +kernel
theorem dJ9_max_7cf53_0 : decode cJ9_max_7cf53 0 = .ok (.iload_n 0, 1) := by decide +kernel
theorem dJ9_max_7cf53_1 : decode cJ9_max_7cf53 1 = .ok (.iload_n 1, 1) := by decide +kernel
theorem dJ9_max_7cf53_2 : decode cJ9_max_7cf53 2 = .ok (.if_icmp .lt 7, 3) := by decide +kernel
theorem dJ9_max_7cf53_5 : decode cJ9_max_7cf53 5 = .ok (.iload_n 0, 1) := by decide +kernel
theorem dJ9_max_7cf53_6 : decode cJ9_max_7cf53 6 = .ok (.goto 4, 3) := by decide +kernel
theorem dJ9_max_7cf53_9 : decode cJ9_max_7cf53 9 = .ok (.iload_n 1, 1) := by decide +kernel
theorem dJ9_max_7cf53_10 : decode cJ9_max_7cf53 10 = .ok (.ireturn, 1) := by decide +kernel
