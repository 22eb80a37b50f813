theorem dX6_init_0 : decode cX6_init 0 = .ok (.aload_n 0, 1) := by decide +kernel
theorem dX6_init_1 : decode cX6_init 1 = .ok (.invokespecial 1, 3) := by decide +kernel
theorem dX6_init_4 : decode cX6_init 4 = .ok (.aload_n 0, 1) := by decide +kernel
theorem dX6_init_5 : decode cX6_init 5 = .ok (.new 7, 3) := by decide +kernel
theorem dX6_init_8 : decode cX6_init 8 = .ok (.dup, 1) := by decide +kernel
theorem dX6_init_9 : decode cX6_init 9 = .ok (.invokespecial 9, 3) := by decide +kernel
theorem dX6_init_12 : decode cX6_init 12 = .ok (.putfield 10, 3) := by decide +kernel
theorem dX6_init_15 : decode cX6_init 15 = .ok (.aload_n 0, 1) := by decide +kernel
theorem dX6_init_16 : decode cX6_init 16 = .ok (.new 7, 3) := by decide +kernel
theorem dX6_init_19 : decode cX6_init 19 = .ok (.dup, 1) := by decide +kernel
theorem dX6_init_20 : decode cX6_init 20 = .ok (.invokespecial 9, 3) := by decide +kernel
theorem dX6_init_23 : decode cX6_init 23 = .ok (.putfield 16, 3) := by decide +kernel
theorem dX6_init_26 : decode cX6_init 26 = .ok (.aload_n 0, 1) := by decide +kernel
theorem dX6_init_27 : decode cX6_init 27 = .ok (.new 7, 3) := by decide +kernel
theorem dX6_init_30 : decode cX6_init 30 = .ok (.dup, 1) := by decide +kernel
theorem dX6_init_31 : decode cX6_init 31 = .ok (.invokespecial 9, 3) := by decide +kernel
theorem dX6_init_34 : decode cX6_init 34 = .ok (.putfield 19, 3) := by decide +kernel
theorem dX6_init_37 : decode cX6_init 37 = .ok (.aload_n 0, 1) := by decide +kernel
theorem dX6_init_38 : decode cX6_init 38 = .ok (.new 22, 3) := by decide +kernel
theorem dX6_init_41 : decode cX6_init 41 = .ok (.dup, 1) := by decide +kernel
theorem dX6_init_42 : decode cX6_init 42 = .ok (.invokespecial 24, 3) := by decide +kernel
theorem dX6_init_45 : decode cX6_init 45 = .ok (.putfield 25, 3) := by decide +kernel
theorem dX6_init_48 : decode cX6_init 48 = .ok (.aload_n 0, 1) := by decide +kernel
theorem dX6_init_49 : decode cX6_init 49 = .ok (.new 29, 3) := by decide +kernel
theorem dX6_init_52 : decode cX6_init 52 = .ok (.dup, 1) := by decide +kernel
theorem dX6_init_53 : decode cX6_init 53 = .ok (.invokespecial 31, 3) := by decide +kernel
theorem dX6_init_56 : decode cX6_init 56 = .ok (.putfield 32, 3) := by decide +kernel
theorem dX6_init_59 : decode cX6_init 59 = .ok (.aload_n 0, 1) := by decide +kernel
theorem dX6_init_60 : decode cX6_init 60 = .ok (.new 36, 3) := by decide +kernel
theorem dX6_init_63 : decode cX6_init 63 = .ok (.dup, 1) := by decide +kernel
theorem dX6_init_64 : decode cX6_init 64 = .ok (.invokespecial 38, 3) := by decide +kernel
theorem dX6_init_67 : decode cX6_init 67 = .ok (.putfield 39, 3) := by decide +kernel
theorem dX6_init_70 : decode cX6_init 70 = .ok (.aload_n 0, 1) := by decide +kernel
theorem dX6_init_71 : decode cX6_init 71 = .ok (.new 43, 3) := by decide +kernel
theorem dX6_init_74 : decode cX6_init 74 = .ok (.dup, 1) := by decide +kernel
theorem dX6_init_75 : decode cX6_init 75 = .ok (.aload_n 0, 1) := by decide +kernel
theorem dX6_init_76 : decode cX6_init 76 = .ok (.getfield 39, 3) := by decide +kernel
theorem dX6_init_79 : decode cX6_init 79 = .ok (.invokespecial 45, 3) := by decide +kernel
theorem dX6_init_82 : decode cX6_init 82 = .ok (.putfield 48, 3) := by decide +kernel
theorem dX6_init_85 : decode cX6_init 85 = .ok (.return_, 1) := by decide +kernel
theorem dX6_bears_0 : decode cX6_bears 0 = .ok (.iload_n 1, 1) := by decide +kernel
theorem dX6_bears_1 : decode cX6_bears 1 = .ok (.invokestatic 52, 3) := by decide +kernel
theorem dX6_bears_4 : decode cX6_bears 4 = .ok (.ifCond .eq 13, 3) := by decide +kernel
theorem dX6_bears_7 : decode cX6_bears 7 = .ok (.iload_n 2, 1) := by decide +kernel
theorem dX6_bears_8 : decode cX6_bears 8 = .ok (.iconst 0, 1) := by decide +kernel
theorem dX6_bears_9 : decode cX6_bears 9 = .ok (.bipush 9, 2) := by decide +kernel
theorem dX6_bears_11 : decode cX6_bears 11 = .ok (.invokestatic 58, 3) := by decide +kernel
theorem dX6_bears_14 : decode cX6_bears 14 = .ok (.ifCond .ne 5, 3) := by decide +kernel
theorem dX6_bears_17 : decode cX6_bears 17 = .ok (.iconst (-1), 1) := by decide +kernel
theorem dX6_bears_18 : decode cX6_bears 18 = .ok (.ireturn, 1) := by decide +kernel
theorem dX6_bears_19 : decode cX6_bears 19 = .ok (.aload_n 0, 1) := by decide +kernel
theorem dX6_bears_20 : decode cX6_bears 20 = .ok (.getfield 25, 3) := by decide +kernel
theorem dX6_bears_23 : decode cX6_bears 23 = .ok (.aload_n 0, 1) := by decide +kernel
theorem dX6_bears_24 : decode cX6_bears 24 = .ok (.getfield 10, 3) := by decide +kernel
theorem dX6_bears_27 : decode cX6_bears 27 = .ok (.invokevirtual 62, 3) := by decide +kernel
theorem dX6_bears_30 : decode cX6_bears 30 = .ok (.aload_n 0, 1) := by decide +kernel
theorem dX6_bears_31 : decode cX6_bears 31 = .ok (.getfield 10, 3) := by decide +kernel
theorem dX6_bears_34 : decode cX6_bears 34 = .ok (.getfield 66, 3) := by decide +kernel
theorem dX6_bears_37 : decode cX6_bears 37 = .ok (.iload_n 1, 1) := by decide +kernel
theorem dX6_bears_38 : decode cX6_bears 38 = .ok (.iaload, 1) := by decide +kernel
theorem dX6_bears_39 : decode cX6_bears 39 = .ok (.istore_n 3, 1) := by decide +kernel
theorem dX6_bears_40 : decode cX6_bears 40 = .ok (.aload_n 0, 1) := by decide +kernel
theorem dX6_bears_41 : decode cX6_bears 41 = .ok (.getfield 10, 3) := by decide +kernel
theorem dX6_bears_44 : decode cX6_bears 44 = .ok (.iload_n 1, 1) := by decide +kernel
theorem dX6_bears_45 : decode cX6_bears 45 = .ok (.iload_n 2, 1) := by decide +kernel
theorem dX6_bears_46 : decode cX6_bears 46 = .ok (.invokevirtual 70, 3) := by decide +kernel
theorem dX6_bears_49 : decode cX6_bears 49 = .ok (.iload_n 3, 1) := by decide +kernel
theorem dX6_bears_50 : decode cX6_bears 50 = .ok (.ireturn, 1) := by decide +kernel
theorem dX6_wind_0 : decode cX6_wind 0 = .ok (.iload_n 1, 1) := by decide +kernel
theorem dX6_wind_1 : decode cX6_wind 1 = .ok (.iconst 0, 1) := by decide +kernel
theorem dX6_wind_2 : decode cX6_wind 2 = .ok (.iconst 3, 1) := by decide +kernel
theorem dX6_wind_3 : decode cX6_wind 3 = .ok (.invokestatic 58, 3) := by decide +kernel
theorem dX6_wind_6 : decode cX6_wind 6 = .ok (.ifCond .ne 5, 3) := by decide +kernel
theorem dX6_wind_9 : decode cX6_wind 9 = .ok (.iconst (-1), 1) := by decide +kernel
theorem dX6_wind_10 : decode cX6_wind 10 = .ok (.ireturn, 1) := by decide +kernel
theorem dX6_wind_11 : decode cX6_wind 11 = .ok (.aload_n 0, 1) := by decide +kernel
theorem dX6_wind_12 : decode cX6_wind 12 = .ok (.getfield 25, 3) := by decide +kernel
theorem dX6_wind_15 : decode cX6_wind 15 = .ok (.aload_n 0, 1) := by decide +kernel
theorem dX6_wind_16 : decode cX6_wind 16 = .ok (.getfield 10, 3) := by decide +kernel
theorem dX6_wind_19 : decode cX6_wind 19 = .ok (.invokevirtual 62, 3) := by decide +kernel
theorem dX6_wind_22 : decode cX6_wind 22 = .ok (.aload_n 0, 1) := by decide +kernel
theorem dX6_wind_23 : decode cX6_wind 23 = .ok (.getfield 10, 3) := by decide +kernel
theorem dX6_wind_26 : decode cX6_wind 26 = .ok (.getfield 74, 3) := by decide +kernel
theorem dX6_wind_29 : decode cX6_wind 29 = .ok (.istore_n 2, 1) := by decide +kernel
theorem dX6_wind_30 : decode cX6_wind 30 = .ok (.aload_n 0, 1) := by decide +kernel
theorem dX6_wind_31 : decode cX6_wind 31 = .ok (.getfield 10, 3) := by decide +kernel
theorem dX6_wind_34 : decode cX6_wind 34 = .ok (.iload_n 1, 1) := by decide +kernel
theorem dX6_wind_35 : decode cX6_wind 35 = .ok (.putfield 74, 3) := by decide +kernel
theorem dX6_wind_38 : decode cX6_wind 38 = .ok (.iload_n 2, 1) := by decide +kernel
theorem dX6_wind_39 : decode cX6_wind 39 = .ok (.ireturn, 1) := by decide +kernel
theorem dX6_chimney_0 : decode cX6_chimney 0 = .ok (.iload_n 1, 1) := by decide +kernel
theorem dX6_chimney_1 : decode cX6_chimney 1 = .ok (.invokestatic 78, 3) := by decide +kernel
theorem dX6_chimney_4 : decode cX6_chimney 4 = .ok (.ifCond .ne 5, 3) := by decide +kernel
theorem dX6_chimney_7 : decode cX6_chimney 7 = .ok (.iconst (-1), 1) := by decide +kernel
theorem dX6_chimney_8 : decode cX6_chimney 8 = .ok (.ireturn, 1) := by decide +kernel
theorem dX6_chimney_9 : decode cX6_chimney 9 = .ok (.aload_n 0, 1) := by decide +kernel
theorem dX6_chimney_10 : decode cX6_chimney 10 = .ok (.getfield 25, 3) := by decide +kernel
theorem dX6_chimney_13 : decode cX6_chimney 13 = .ok (.aload_n 0, 1) := by decide +kernel
theorem dX6_chimney_14 : decode cX6_chimney 14 = .ok (.getfield 10, 3) := by decide +kernel
theorem dX6_chimney_17 : decode cX6_chimney 17 = .ok (.invokevirtual 62, 3) := by decide +kernel
theorem dX6_chimney_20 : decode cX6_chimney 20 = .ok (.aload_n 0, 1) := by decide +kernel
theorem dX6_chimney_21 : decode cX6_chimney 21 = .ok (.getfield 10, 3) := by decide +kernel
theorem dX6_chimney_24 : decode cX6_chimney 24 = .ok (.iload_n 1, 1) := by decide +kernel
theorem dX6_chimney_25 : decode cX6_chimney 25 = .ok (.invokevirtual 81, 3) := by decide +kernel
theorem dX6_chimney_28 : decode cX6_chimney 28 = .ok (.aload_n 0, 1) := by decide +kernel
theorem dX6_chimney_29 : decode cX6_chimney 29 = .ok (.getfield 10, 3) := by decide +kernel
theorem dX6_chimney_32 : decode cX6_chimney 32 = .ok (.aload_n 0, 1) := by decide +kernel
theorem dX6_chimney_33 : decode cX6_chimney 33 = .ok (.getfield 10, 3) := by decide +kernel
theorem dX6_chimney_36 : decode cX6_chimney 36 = .ok (.getfield 74, 3) := by decide +kernel
theorem dX6_chimney_39 : decode cX6_chimney 39 = .ok (.invokevirtual 85, 3) := by decide +kernel
theorem dX6_chimney_42 : decode cX6_chimney 42 = .ok (.invokestatic 89, 3) := by decide +kernel
theorem dX6_chimney_45 : decode cX6_chimney 45 = .ok (.ireturn, 1) := by decide +kernel
theorem dX6_coop_0 : decode cX6_coop 0 = .ok (.iload_n 1, 1) := by decide +kernel
theorem dX6_coop_1 : decode cX6_coop 1 = .ok (.invokestatic 78, 3) := by decide +kernel
theorem dX6_coop_4 : decode cX6_coop 4 = .ok (.ifCond .ne 5, 3) := by decide +kernel
theorem dX6_coop_7 : decode cX6_coop 7 = .ok (.iconst (-1), 1) := by decide +kernel
theorem dX6_coop_8 : decode cX6_coop 8 = .ok (.ireturn, 1) := by decide +kernel
theorem dX6_coop_9 : decode cX6_coop 9 = .ok (.aload_n 0, 1) := by decide +kernel
theorem dX6_coop_10 : decode cX6_coop 10 = .ok (.getfield 25, 3) := by decide +kernel
theorem dX6_coop_13 : decode cX6_coop 13 = .ok (.aload_n 0, 1) := by decide +kernel
theorem dX6_coop_14 : decode cX6_coop 14 = .ok (.getfield 10, 3) := by decide +kernel
theorem dX6_coop_17 : decode cX6_coop 17 = .ok (.invokevirtual 62, 3) := by decide +kernel
theorem dX6_coop_20 : decode cX6_coop 20 = .ok (.aload_n 0, 1) := by decide +kernel
theorem dX6_coop_21 : decode cX6_coop 21 = .ok (.getfield 10, 3) := by decide +kernel
theorem dX6_coop_24 : decode cX6_coop 24 = .ok (.dup, 1) := by decide +kernel
theorem dX6_coop_25 : decode cX6_coop 25 = .ok (.getfield 94, 3) := by decide +kernel
theorem dX6_coop_28 : decode cX6_coop 28 = .ok (.iconst 1, 1) := by decide +kernel
theorem dX6_coop_29 : decode cX6_coop 29 = .ok (.iload_n 1, 1) := by decide +kernel
theorem dX6_coop_30 : decode cX6_coop 30 = .ok (.ishl, 1) := by decide +kernel
theorem dX6_coop_31 : decode cX6_coop 31 = .ok (.ixor, 1) := by decide +kernel
theorem dX6_coop_32 : decode cX6_coop 32 = .ok (.putfield 94, 3) := by decide +kernel
theorem dX6_coop_35 : decode cX6_coop 35 = .ok (.aload_n 0, 1) := by decide +kernel
theorem dX6_coop_36 : decode cX6_coop 36 = .ok (.getfield 10, 3) := by decide +kernel
theorem dX6_coop_39 : decode cX6_coop 39 = .ok (.getfield 94, 3) := by decide +kernel
theorem dX6_coop_42 : decode cX6_coop 42 = .ok (.invokestatic 89, 3) := by decide +kernel
theorem dX6_coop_45 : decode cX6_coop 45 = .ok (.ireturn, 1) := by decide +kernel
theorem dX6_owner_0 : decode cX6_owner 0 = .ok (.iload_n 1, 1) := by decide +kernel
theorem dX6_owner_1 : decode cX6_owner 1 = .ok (.invokestatic 97, 3) := by decide +kernel
theorem dX6_owner_4 : decode cX6_owner 4 = .ok (.ifCond .eq 23, 3) := by decide +kernel
theorem dX6_owner_7 : decode cX6_owner 7 = .ok (.iload_n 2, 1) := by decide +kernel
theorem dX6_owner_8 : decode cX6_owner 8 = .ok (.iconst 1, 1) := by decide +kernel
theorem dX6_owner_9 : decode cX6_owner 9 = .ok (.bipush 9, 2) := by decide +kernel
theorem dX6_owner_11 : decode cX6_owner 11 = .ok (.invokestatic 58, 3) := by decide +kernel
theorem dX6_owner_14 : decode cX6_owner 14 = .ok (.ifCond .eq 13, 3) := by decide +kernel
theorem dX6_owner_17 : decode cX6_owner 17 = .ok (.iload_n 3, 1) := by decide +kernel
theorem dX6_owner_18 : decode cX6_owner 18 = .ok (.iconst 0, 1) := by decide +kernel
theorem dX6_owner_19 : decode cX6_owner 19 = .ok (.ldc 100, 2) := by decide +kernel
theorem dX6_owner_21 : decode cX6_owner 21 = .ok (.invokestatic 58, 3) := by decide +kernel
theorem dX6_owner_24 : decode cX6_owner 24 = .ok (.ifCond .ne 5, 3) := by decide +kernel
theorem dX6_owner_27 : decode cX6_owner 27 = .ok (.iconst (-1), 1) := by decide +kernel
theorem dX6_owner_28 : decode cX6_owner 28 = .ok (.ireturn, 1) := by decide +kernel
theorem dX6_owner_29 : decode cX6_owner 29 = .ok (.aload_n 0, 1) := by decide +kernel
theorem dX6_owner_30 : decode cX6_owner 30 = .ok (.getfield 25, 3) := by decide +kernel
theorem dX6_owner_33 : decode cX6_owner 33 = .ok (.aload_n 0, 1) := by decide +kernel
theorem dX6_owner_34 : decode cX6_owner 34 = .ok (.getfield 10, 3) := by decide +kernel
theorem dX6_owner_37 : decode cX6_owner 37 = .ok (.invokevirtual 62, 3) := by decide +kernel
theorem dX6_owner_40 : decode cX6_owner 40 = .ok (.aload_n 0, 1) := by decide +kernel
theorem dX6_owner_41 : decode cX6_owner 41 = .ok (.getfield 10, 3) := by decide +kernel
theorem dX6_owner_44 : decode cX6_owner 44 = .ok (.getfield 101, 3) := by decide +kernel
theorem dX6_owner_47 : decode cX6_owner 47 = .ok (.iload_n 1, 1) := by decide +kernel
theorem dX6_owner_48 : decode cX6_owner 48 = .ok (.iaload, 1) := by decide +kernel
theorem dX6_owner_49 : decode cX6_owner 49 = .ok (.istore 5, 2) := by decide +kernel
theorem dX6_owner_51 : decode cX6_owner 51 = .ok (.aload_n 0, 1) := by decide +kernel
theorem dX6_owner_52 : decode cX6_owner 52 = .ok (.getfield 10, 3) := by decide +kernel
theorem dX6_owner_55 : decode cX6_owner 55 = .ok (.getfield 101, 3) := by decide +kernel
theorem dX6_owner_58 : decode cX6_owner 58 = .ok (.iload_n 1, 1) := by decide +kernel
theorem dX6_owner_59 : decode cX6_owner 59 = .ok (.iload_n 2, 1) := by decide +kernel
theorem dX6_owner_60 : decode cX6_owner 60 = .ok (.iastore, 1) := by decide +kernel
theorem dX6_owner_61 : decode cX6_owner 61 = .ok (.aload_n 0, 1) := by decide +kernel
theorem dX6_owner_62 : decode cX6_owner 62 = .ok (.getfield 10, 3) := by decide +kernel
theorem dX6_owner_65 : decode cX6_owner 65 = .ok (.getfield 104, 3) := by decide +kernel
theorem dX6_owner_68 : decode cX6_owner 68 = .ok (.iload_n 1, 1) := by decide +kernel
theorem dX6_owner_69 : decode cX6_owner 69 = .ok (.iload_n 3, 1) := by decide +kernel
theorem dX6_owner_70 : decode cX6_owner 70 = .ok (.iastore, 1) := by decide +kernel
theorem dX6_owner_71 : decode cX6_owner 71 = .ok (.aload_n 0, 1) := by decide +kernel
theorem dX6_owner_72 : decode cX6_owner 72 = .ok (.getfield 10, 3) := by decide +kernel
theorem dX6_owner_75 : decode cX6_owner 75 = .ok (.iload_n 1, 1) := by decide +kernel
theorem dX6_owner_76 : decode cX6_owner 76 = .ok (.iload 4, 2) := by decide +kernel
theorem dX6_owner_78 : decode cX6_owner 78 = .ok (.invokevirtual 107, 3) := by decide +kernel
theorem dX6_owner_81 : decode cX6_owner 81 = .ok (.iload 5, 2) := by decide +kernel
theorem dX6_owner_83 : decode cX6_owner 83 = .ok (.ireturn, 1) := by decide +kernel
theorem dX6_reach_0 : decode cX6_reach 0 = .ok (.iload_n 1, 1) := by decide +kernel
theorem dX6_reach_1 : decode cX6_reach 1 = .ok (.iconst 0, 1) := by decide +kernel
theorem dX6_reach_2 : decode cX6_reach 2 = .ok (.iconst 3, 1) := by decide +kernel
theorem dX6_reach_3 : decode cX6_reach 3 = .ok (.invokestatic 58, 3) := by decide +kernel
theorem dX6_reach_6 : decode cX6_reach 6 = .ok (.ifCond .ne 5, 3) := by decide +kernel
theorem dX6_reach_9 : decode cX6_reach 9 = .ok (.iconst (-1), 1) := by decide +kernel
theorem dX6_reach_10 : decode cX6_reach 10 = .ok (.ireturn, 1) := by decide +kernel
theorem dX6_reach_11 : decode cX6_reach 11 = .ok (.aload_n 0, 1) := by decide +kernel
theorem dX6_reach_12 : decode cX6_reach 12 = .ok (.getfield 25, 3) := by decide +kernel
theorem dX6_reach_15 : decode cX6_reach 15 = .ok (.aload_n 0, 1) := by decide +kernel
theorem dX6_reach_16 : decode cX6_reach 16 = .ok (.getfield 10, 3) := by decide +kernel
theorem dX6_reach_19 : decode cX6_reach 19 = .ok (.invokevirtual 62, 3) := by decide +kernel
theorem dX6_reach_22 : decode cX6_reach 22 = .ok (.aload_n 0, 1) := by decide +kernel
theorem dX6_reach_23 : decode cX6_reach 23 = .ok (.getfield 10, 3) := by decide +kernel
theorem dX6_reach_26 : decode cX6_reach 26 = .ok (.getfield 111, 3) := by decide +kernel
theorem dX6_reach_29 : decode cX6_reach 29 = .ok (.istore_n 2, 1) := by decide +kernel
theorem dX6_reach_30 : decode cX6_reach 30 = .ok (.aload_n 0, 1) := by decide +kernel
theorem dX6_reach_31 : decode cX6_reach 31 = .ok (.getfield 10, 3) := by decide +kernel
theorem dX6_reach_34 : decode cX6_reach 34 = .ok (.iload_n 1, 1) := by decide +kernel
theorem dX6_reach_35 : decode cX6_reach 35 = .ok (.putfield 111, 3) := by decide +kernel
theorem dX6_reach_38 : decode cX6_reach 38 = .ok (.iload_n 2, 1) := by decide +kernel
theorem dX6_reach_39 : decode cX6_reach 39 = .ok (.ireturn, 1) := by decide +kernel
theorem dX6_hang_0 : decode cX6_hang 0 = .ok (.iload_n 1, 1) := by decide +kernel
theorem dX6_hang_1 : decode cX6_hang 1 = .ok (.invokestatic 97, 3) := by decide +kernel
theorem dX6_hang_4 : decode cX6_hang 4 = .ok (.ifCond .eq 10, 3) := by decide +kernel
theorem dX6_hang_7 : decode cX6_hang 7 = .ok (.iload_n 2, 1) := by decide +kernel
theorem dX6_hang_8 : decode cX6_hang 8 = .ok (.invokestatic 52, 3) := by decide +kernel
theorem dX6_hang_11 : decode cX6_hang 11 = .ok (.ifCond .ne 5, 3) := by decide +kernel
theorem dX6_hang_14 : decode cX6_hang 14 = .ok (.iconst (-1), 1) := by decide +kernel
theorem dX6_hang_15 : decode cX6_hang 15 = .ok (.ireturn, 1) := by decide +kernel
theorem dX6_hang_16 : decode cX6_hang 16 = .ok (.aload_n 0, 1) := by decide +kernel
theorem dX6_hang_17 : decode cX6_hang 17 = .ok (.getfield 25, 3) := by decide +kernel
theorem dX6_hang_20 : decode cX6_hang 20 = .ok (.aload_n 0, 1) := by decide +kernel
theorem dX6_hang_21 : decode cX6_hang 21 = .ok (.getfield 10, 3) := by decide +kernel
theorem dX6_hang_24 : decode cX6_hang 24 = .ok (.invokevirtual 62, 3) := by decide +kernel
theorem dX6_hang_27 : decode cX6_hang 27 = .ok (.aload_n 0, 1) := by decide +kernel
theorem dX6_hang_28 : decode cX6_hang 28 = .ok (.getfield 10, 3) := by decide +kernel
theorem dX6_hang_31 : decode cX6_hang 31 = .ok (.iload_n 1, 1) := by decide +kernel
theorem dX6_hang_32 : decode cX6_hang 32 = .ok (.iload_n 2, 1) := by decide +kernel
theorem dX6_hang_33 : decode cX6_hang 33 = .ok (.invokevirtual 114, 3) := by decide +kernel
theorem dX6_hang_36 : decode cX6_hang 36 = .ok (.ireturn, 1) := by decide +kernel
theorem dX6_take_0 : decode cX6_take 0 = .ok (.iload_n 1, 1) := by decide +kernel
theorem dX6_take_1 : decode cX6_take 1 = .ok (.invokestatic 97, 3) := by decide +kernel
theorem dX6_take_4 : decode cX6_take 4 = .ok (.ifCond .eq 10, 3) := by decide +kernel
theorem dX6_take_7 : decode cX6_take 7 = .ok (.iload_n 2, 1) := by decide +kernel
theorem dX6_take_8 : decode cX6_take 8 = .ok (.invokestatic 52, 3) := by decide +kernel
theorem dX6_take_11 : decode cX6_take 11 = .ok (.ifCond .ne 5, 3) := by decide +kernel
theorem dX6_take_14 : decode cX6_take 14 = .ok (.iconst (-1), 1) := by decide +kernel
theorem dX6_take_15 : decode cX6_take 15 = .ok (.ireturn, 1) := by decide +kernel
theorem dX6_take_16 : decode cX6_take 16 = .ok (.aload_n 0, 1) := by decide +kernel
theorem dX6_take_17 : decode cX6_take 17 = .ok (.getfield 25, 3) := by decide +kernel
theorem dX6_take_20 : decode cX6_take 20 = .ok (.aload_n 0, 1) := by decide +kernel
theorem dX6_take_21 : decode cX6_take 21 = .ok (.getfield 10, 3) := by decide +kernel
theorem dX6_take_24 : decode cX6_take 24 = .ok (.invokevirtual 62, 3) := by decide +kernel
theorem dX6_take_27 : decode cX6_take 27 = .ok (.aload_n 0, 1) := by decide +kernel
theorem dX6_take_28 : decode cX6_take 28 = .ok (.getfield 10, 3) := by decide +kernel
theorem dX6_take_31 : decode cX6_take 31 = .ok (.iload_n 1, 1) := by decide +kernel
theorem dX6_take_32 : decode cX6_take 32 = .ok (.iload_n 2, 1) := by decide +kernel
theorem dX6_take_33 : decode cX6_take 33 = .ok (.invokevirtual 118, 3) := by decide +kernel
theorem dX6_take_36 : decode cX6_take 36 = .ok (.ireturn, 1) := by decide +kernel
theorem dX6_walk_0 : decode cX6_walk 0 = .ok (.iload_n 1, 1) := by decide +kernel
theorem dX6_walk_1 : decode cX6_walk 1 = .ok (.invokestatic 97, 3) := by decide +kernel
theorem dX6_walk_4 : decode cX6_walk 4 = .ok (.ifCond .eq 10, 3) := by decide +kernel
theorem dX6_walk_7 : decode cX6_walk 7 = .ok (.iload_n 2, 1) := by decide +kernel
theorem dX6_walk_8 : decode cX6_walk 8 = .ok (.invokestatic 52, 3) := by decide +kernel
theorem dX6_walk_11 : decode cX6_walk 11 = .ok (.ifCond .ne 5, 3) := by decide +kernel
theorem dX6_walk_14 : decode cX6_walk 14 = .ok (.iconst (-1), 1) := by decide +kernel
theorem dX6_walk_15 : decode cX6_walk 15 = .ok (.ireturn, 1) := by decide +kernel
theorem dX6_walk_16 : decode cX6_walk 16 = .ok (.aload_n 0, 1) := by decide +kernel
theorem dX6_walk_17 : decode cX6_walk 17 = .ok (.getfield 10, 3) := by decide +kernel
theorem dX6_walk_20 : decode cX6_walk 20 = .ok (.iload_n 1, 1) := by decide +kernel
theorem dX6_walk_21 : decode cX6_walk 21 = .ok (.iload_n 2, 1) := by decide +kernel
theorem dX6_walk_22 : decode cX6_walk 22 = .ok (.invokevirtual 121, 3) := by decide +kernel
theorem dX6_walk_25 : decode cX6_walk 25 = .ok (.ifCond .ne 6, 3) := by decide +kernel
theorem dX6_walk_28 : decode cX6_walk 28 = .ok (.bipush (-2), 2) := by decide +kernel
theorem dX6_walk_30 : decode cX6_walk 30 = .ok (.ireturn, 1) := by decide +kernel
theorem dX6_walk_31 : decode cX6_walk 31 = .ok (.aload_n 0, 1) := by decide +kernel
theorem dX6_walk_32 : decode cX6_walk 32 = .ok (.getfield 25, 3) := by decide +kernel
theorem dX6_walk_35 : decode cX6_walk 35 = .ok (.aload_n 0, 1) := by decide +kernel
theorem dX6_walk_36 : decode cX6_walk 36 = .ok (.getfield 10, 3) := by decide +kernel
theorem dX6_walk_39 : decode cX6_walk 39 = .ok (.invokevirtual 62, 3) := by decide +kernel
theorem dX6_walk_42 : decode cX6_walk 42 = .ok (.aload_n 0, 1) := by decide +kernel
theorem dX6_walk_43 : decode cX6_walk 43 = .ok (.getfield 10, 3) := by decide +kernel
theorem dX6_walk_46 : decode cX6_walk 46 = .ok (.iload_n 1, 1) := by decide +kernel
theorem dX6_walk_47 : decode cX6_walk 47 = .ok (.iload_n 2, 1) := by decide +kernel
theorem dX6_walk_48 : decode cX6_walk 48 = .ok (.invokevirtual 125, 3) := by decide +kernel
theorem dX6_walk_51 : decode cX6_walk 51 = .ok (.ireturn, 1) := by decide +kernel
theorem dX6_day_0 : decode cX6_day 0 = .ok (.aload_n 0, 1) := by decide +kernel
theorem dX6_day_1 : decode cX6_day 1 = .ok (.getfield 25, 3) := by decide +kernel
theorem dX6_day_4 : decode cX6_day 4 = .ok (.aload_n 0, 1) := by decide +kernel
theorem dX6_day_5 : decode cX6_day 5 = .ok (.getfield 10, 3) := by decide +kernel
theorem dX6_day_8 : decode cX6_day 8 = .ok (.invokevirtual 62, 3) := by decide +kernel
theorem dX6_day_11 : decode cX6_day 11 = .ok (.aload_n 0, 1) := by decide +kernel
theorem dX6_day_12 : decode cX6_day 12 = .ok (.getfield 10, 3) := by decide +kernel
theorem dX6_day_15 : decode cX6_day 15 = .ok (.invokevirtual 128, 3) := by decide +kernel
theorem dX6_day_18 : decode cX6_day 18 = .ok (.aload_n 0, 1) := by decide +kernel
theorem dX6_day_19 : decode cX6_day 19 = .ok (.getfield 10, 3) := by decide +kernel
theorem dX6_day_22 : decode cX6_day 22 = .ok (.invokevirtual 131, 3) := by decide +kernel
theorem dX6_day_25 : decode cX6_day 25 = .ok (.invokestatic 89, 3) := by decide +kernel
theorem dX6_day_28 : decode cX6_day 28 = .ok (.ireturn, 1) := by decide +kernel
theorem dX6_append_0 : decode cX6_append 0 = .ok (.iload_n 1, 1) := by decide +kernel
theorem dX6_append_1 : decode cX6_append 1 = .ok (.bipush 33, 2) := by decide +kernel
theorem dX6_append_3 : decode cX6_append 3 = .ok (.bipush 126, 2) := by decide +kernel
theorem dX6_append_5 : decode cX6_append 5 = .ok (.invokestatic 58, 3) := by decide +kernel
theorem dX6_append_8 : decode cX6_append 8 = .ok (.ifCond .ne 5, 3) := by decide +kernel
theorem dX6_append_11 : decode cX6_append 11 = .ok (.iconst (-1), 1) := by decide +kernel
theorem dX6_append_12 : decode cX6_append 12 = .ok (.ireturn, 1) := by decide +kernel
theorem dX6_append_13 : decode cX6_append 13 = .ok (.aload_n 0, 1) := by decide +kernel
theorem dX6_append_14 : decode cX6_append 14 = .ok (.getfield 39, 3) := by decide +kernel
theorem dX6_append_17 : decode cX6_append 17 = .ok (.getfield 135, 3) := by decide +kernel
theorem dX6_append_20 : decode cX6_append 20 = .ok (.bipush 60, 2) := by decide +kernel
theorem dX6_append_22 : decode cX6_append 22 = .ok (.if_icmp .lt 6, 3) := by decide +kernel
theorem dX6_append_25 : decode cX6_append 25 = .ok (.bipush (-3), 2) := by decide +kernel
theorem dX6_append_27 : decode cX6_append 27 = .ok (.ireturn, 1) := by decide +kernel
theorem dX6_append_28 : decode cX6_append 28 = .ok (.aload_n 0, 1) := by decide +kernel
theorem dX6_append_29 : decode cX6_append 29 = .ok (.getfield 39, 3) := by decide +kernel
theorem dX6_append_32 : decode cX6_append 32 = .ok (.iload_n 1, 1) := by decide +kernel
theorem dX6_append_33 : decode cX6_append 33 = .ok (.i2c, 1) := by decide +kernel
theorem dX6_append_34 : decode cX6_append 34 = .ok (.invokevirtual 138, 3) := by decide +kernel
theorem dX6_append_37 : decode cX6_append 37 = .ok (.aload_n 0, 1) := by decide +kernel
theorem dX6_append_38 : decode cX6_append 38 = .ok (.getfield 39, 3) := by decide +kernel
theorem dX6_append_41 : decode cX6_append 41 = .ok (.getfield 135, 3) := by decide +kernel
theorem dX6_append_44 : decode cX6_append 44 = .ok (.ireturn, 1) := by decide +kernel
theorem dX6_clear_0 : decode cX6_clear 0 = .ok (.aload_n 0, 1) := by decide +kernel
theorem dX6_clear_1 : decode cX6_clear 1 = .ok (.getfield 39, 3) := by decide +kernel
theorem dX6_clear_4 : decode cX6_clear 4 = .ok (.getfield 135, 3) := by decide +kernel
theorem dX6_clear_7 : decode cX6_clear 7 = .ok (.istore_n 1, 1) := by decide +kernel
theorem dX6_clear_8 : decode cX6_clear 8 = .ok (.aload_n 0, 1) := by decide +kernel
theorem dX6_clear_9 : decode cX6_clear 9 = .ok (.getfield 39, 3) := by decide +kernel
theorem dX6_clear_12 : decode cX6_clear 12 = .ok (.iconst 0, 1) := by decide +kernel
theorem dX6_clear_13 : decode cX6_clear 13 = .ok (.putfield 135, 3) := by decide +kernel
theorem dX6_clear_16 : decode cX6_clear 16 = .ok (.iload_n 1, 1) := by decide +kernel
theorem dX6_clear_17 : decode cX6_clear 17 = .ok (.ireturn, 1) := by decide +kernel
theorem dX6_fault_0 : decode cX6_fault 0 = .ok (.aload_n 0, 1) := by decide +kernel
theorem dX6_fault_1 : decode cX6_fault 1 = .ok (.getfield 48, 3) := by decide +kernel
theorem dX6_fault_4 : decode cX6_fault 4 = .ok (.invokevirtual 142, 3) := by decide +kernel
theorem dX6_fault_7 : decode cX6_fault 7 = .ok (.ireturn, 1) := by decide +kernel
theorem dX6_run_0 : decode cX6_run 0 = .ok (.aload_n 0, 1) := by decide +kernel
theorem dX6_run_1 : decode cX6_run 1 = .ok (.getfield 48, 3) := by decide +kernel
theorem dX6_run_4 : decode cX6_run 4 = .ok (.invokevirtual 142, 3) := by decide +kernel
theorem dX6_run_7 : decode cX6_run 7 = .ok (.bipush (-4), 2) := by decide +kernel
theorem dX6_run_9 : decode cX6_run 9 = .ok (.if_icmp .eq 6, 3) := by decide +kernel
theorem dX6_run_12 : decode cX6_run 12 = .ok (.bipush (-2), 2) := by decide +kernel
theorem dX6_run_14 : decode cX6_run 14 = .ok (.ireturn, 1) := by decide +kernel
theorem dX6_run_15 : decode cX6_run 15 = .ok (.aload_n 0, 1) := by decide +kernel
theorem dX6_run_16 : decode cX6_run 16 = .ok (.getfield 25, 3) := by decide +kernel
theorem dX6_run_19 : decode cX6_run 19 = .ok (.aload_n 0, 1) := by decide +kernel
theorem dX6_run_20 : decode cX6_run 20 = .ok (.getfield 10, 3) := by decide +kernel
theorem dX6_run_23 : decode cX6_run 23 = .ok (.invokevirtual 62, 3) := by decide +kernel
theorem dX6_run_26 : decode cX6_run 26 = .ok (.aload_n 0, 1) := by decide +kernel
theorem dX6_run_27 : decode cX6_run 27 = .ok (.iconst 0, 1) := by decide +kernel
theorem dX6_run_28 : decode cX6_run 28 = .ok (.putfield 145, 3) := by decide +kernel
theorem dX6_run_31 : decode cX6_run 31 = .ok (.aload_n 0, 1) := by decide +kernel
theorem dX6_run_32 : decode cX6_run 32 = .ok (.getfield 48, 3) := by decide +kernel
theorem dX6_run_35 : decode cX6_run 35 = .ok (.invokevirtual 149, 3) := by decide +kernel
theorem dX6_run_38 : decode cX6_run 38 = .ok (.iconst 0, 1) := by decide +kernel
theorem dX6_run_39 : decode cX6_run 39 = .ok (.istore_n 1, 1) := by decide +kernel
theorem dX6_run_40 : decode cX6_run 40 = .ok (.iconst 0, 1) := by decide +kernel
theorem dX6_run_41 : decode cX6_run 41 = .ok (.istore_n 2, 1) := by decide +kernel
theorem dX6_run_42 : decode cX6_run 42 = .ok (.iload_n 2, 1) := by decide +kernel
theorem dX6_run_43 : decode cX6_run 43 = .ok (.bipush 60, 2) := by decide +kernel
theorem dX6_run_45 : decode cX6_run 45 = .ok (.if_icmp .ge 47, 3) := by decide +kernel
theorem dX6_run_48 : decode cX6_run 48 = .ok (.aload_n 0, 1) := by decide +kernel
theorem dX6_run_49 : decode cX6_run 49 = .ok (.getfield 145, 3) := by decide +kernel
theorem dX6_run_52 : decode cX6_run 52 = .ok (.ifCond .ne 40, 3) := by decide +kernel
theorem dX6_run_55 : decode cX6_run 55 = .ok (.aload_n 0, 1) := by decide +kernel
theorem dX6_run_56 : decode cX6_run 56 = .ok (.getfield 48, 3) := by decide +kernel
theorem dX6_run_59 : decode cX6_run 59 = .ok (.invokevirtual 152, 3) := by decide +kernel
theorem dX6_run_62 : decode cX6_run 62 = .ok (.ifCond .eq 30, 3) := by decide +kernel
theorem dX6_run_65 : decode cX6_run 65 = .ok (.aload_n 0, 1) := by decide +kernel
theorem dX6_run_66 : decode cX6_run 66 = .ok (.invokevirtual 156, 3) := by decide +kernel
theorem dX6_run_69 : decode cX6_run 69 = .ok (.istore_n 3, 1) := by decide +kernel
theorem dX6_run_70 : decode cX6_run 70 = .ok (.iload_n 3, 1) := by decide +kernel
theorem dX6_run_71 : decode cX6_run 71 = .ok (.ifCond .ne 9, 3) := by decide +kernel
theorem dX6_run_74 : decode cX6_run 74 = .ok (.iinc 1 1, 3) := by decide +kernel
theorem dX6_run_77 : decode cX6_run 77 = .ok (.goto 9, 3) := by decide +kernel
theorem dX6_run_80 : decode cX6_run 80 = .ok (.aload_n 0, 1) := by decide +kernel
theorem dX6_run_81 : decode cX6_run 81 = .ok (.iload_n 3, 1) := by decide +kernel
theorem dX6_run_82 : decode cX6_run 82 = .ok (.iload_n 2, 1) := by decide +kernel
theorem dX6_run_83 : decode cX6_run 83 = .ok (.invokevirtual 159, 3) := by decide +kernel
theorem dX6_run_86 : decode cX6_run 86 = .ok (.iinc 2 1, 3) := by decide +kernel
theorem dX6_run_89 : decode cX6_run 89 = .ok (.goto (-47), 3) := by decide +kernel
theorem dX6_run_92 : decode cX6_run 92 = .ok (.aload_n 0, 1) := by decide +kernel
theorem dX6_run_93 : decode cX6_run 93 = .ok (.getfield 39, 3) := by decide +kernel
theorem dX6_run_96 : decode cX6_run 96 = .ok (.iconst 0, 1) := by decide +kernel
theorem dX6_run_97 : decode cX6_run 97 = .ok (.putfield 135, 3) := by decide +kernel
theorem dX6_run_100 : decode cX6_run 100 = .ok (.iload_n 1, 1) := by decide +kernel
theorem dX6_run_101 : decode cX6_run 101 = .ok (.ireturn, 1) := by decide +kernel
theorem dX6_why_0 : decode cX6_why 0 = .ok (.iload_n 1, 1) := by decide +kernel
theorem dX6_why_1 : decode cX6_why 1 = .ok (.iconst 0, 1) := by decide +kernel
theorem dX6_why_2 : decode cX6_why 2 = .ok (.iconst 2, 1) := by decide +kernel
theorem dX6_why_3 : decode cX6_why 3 = .ok (.invokestatic 58, 3) := by decide +kernel
theorem dX6_why_6 : decode cX6_why 6 = .ok (.ifCond .ne 5, 3) := by decide +kernel
theorem dX6_why_9 : decode cX6_why 9 = .ok (.iconst (-1), 1) := by decide +kernel
theorem dX6_why_10 : decode cX6_why 10 = .ok (.ireturn, 1) := by decide +kernel
theorem dX6_why_11 : decode cX6_why 11 = .ok (.aload_n 0, 1) := by decide +kernel
theorem dX6_why_12 : decode cX6_why 12 = .ok (.getfield 145, 3) := by decide +kernel
theorem dX6_why_15 : decode cX6_why 15 = .ok (.ifCond .ne 6, 3) := by decide +kernel
theorem dX6_why_18 : decode cX6_why 18 = .ok (.bipush (-4), 2) := by decide +kernel
theorem dX6_why_20 : decode cX6_why 20 = .ok (.ireturn, 1) := by decide +kernel
theorem dX6_why_21 : decode cX6_why 21 = .ok (.iload_n 1, 1) := by decide +kernel
theorem dX6_why_22 : decode cX6_why 22 = .ok (.lookupswitch 36 #[(0, 26), (1, 31)], 26) := by decide +kernel
theorem dX6_why_48 : decode cX6_why 48 = .ok (.aload_n 0, 1) := by decide +kernel
theorem dX6_why_49 : decode cX6_why 49 = .ok (.getfield 162, 3) := by decide +kernel
theorem dX6_why_52 : decode cX6_why 52 = .ok (.ireturn, 1) := by decide +kernel
theorem dX6_why_53 : decode cX6_why 53 = .ok (.aload_n 0, 1) := by decide +kernel
theorem dX6_why_54 : decode cX6_why 54 = .ok (.getfield 165, 3) := by decide +kernel
theorem dX6_why_57 : decode cX6_why 57 = .ok (.ireturn, 1) := by decide +kernel
theorem dX6_why_58 : decode cX6_why 58 = .ok (.aload_n 0, 1) := by decide +kernel
theorem dX6_why_59 : decode cX6_why 59 = .ok (.getfield 168, 3) := by decide +kernel
theorem dX6_why_62 : decode cX6_why 62 = .ok (.ireturn, 1) := by decide +kernel
theorem dX6_roof_0 : decode cX6_roof 0 = .ok (.iload_n 1, 1) := by decide +kernel
theorem dX6_roof_1 : decode cX6_roof 1 = .ok (.invokestatic 78, 3) := by decide +kernel
theorem dX6_roof_4 : decode cX6_roof 4 = .ok (.ifCond .eq 13, 3) := by decide +kernel
theorem dX6_roof_7 : decode cX6_roof 7 = .ok (.iload_n 2, 1) := by decide +kernel
theorem dX6_roof_8 : decode cX6_roof 8 = .ok (.iconst 0, 1) := by decide +kernel
theorem dX6_roof_9 : decode cX6_roof 9 = .ok (.bipush 7, 2) := by decide +kernel
theorem dX6_roof_11 : decode cX6_roof 11 = .ok (.invokestatic 58, 3) := by decide +kernel
theorem dX6_roof_14 : decode cX6_roof 14 = .ok (.ifCond .ne 5, 3) := by decide +kernel
theorem dX6_roof_17 : decode cX6_roof 17 = .ok (.iconst (-1), 1) := by decide +kernel
theorem dX6_roof_18 : decode cX6_roof 18 = .ok (.ireturn, 1) := by decide +kernel
theorem dX6_roof_19 : decode cX6_roof 19 = .ok (.iload_n 2, 1) := by decide +kernel
theorem dX6_roof_20 : decode cX6_roof 20 = .ok (.tableswitch 137 0 6 #[44, 56, 75, 84, 96, 105, 121], 44) := by decide +kernel
theorem dX6_roof_64 : decode cX6_roof 64 = .ok (.aload_n 0, 1) := by decide +kernel
theorem dX6_roof_65 : decode cX6_roof 65 = .ok (.getfield 10, 3) := by decide +kernel
theorem dX6_roof_68 : decode cX6_roof 68 = .ok (.getfield 171, 3) := by decide +kernel
theorem dX6_roof_71 : decode cX6_roof 71 = .ok (.iload_n 1, 1) := by decide +kernel
theorem dX6_roof_72 : decode cX6_roof 72 = .ok (.invokestatic 174, 3) := by decide +kernel
theorem dX6_roof_75 : decode cX6_roof 75 = .ok (.ireturn, 1) := by decide +kernel
theorem dX6_roof_76 : decode cX6_roof 76 = .ok (.aload_n 0, 1) := by decide +kernel
theorem dX6_roof_77 : decode cX6_roof 77 = .ok (.getfield 10, 3) := by decide +kernel
theorem dX6_roof_80 : decode cX6_roof 80 = .ok (.aload_n 0, 1) := by decide +kernel
theorem dX6_roof_81 : decode cX6_roof 81 = .ok (.getfield 10, 3) := by decide +kernel
theorem dX6_roof_84 : decode cX6_roof 84 = .ok (.getfield 74, 3) := by decide +kernel
theorem dX6_roof_87 : decode cX6_roof 87 = .ok (.invokevirtual 85, 3) := by decide +kernel
theorem dX6_roof_90 : decode cX6_roof 90 = .ok (.iload_n 1, 1) := by decide +kernel
theorem dX6_roof_91 : decode cX6_roof 91 = .ok (.invokestatic 174, 3) := by decide +kernel
theorem dX6_roof_94 : decode cX6_roof 94 = .ok (.ireturn, 1) := by decide +kernel
theorem dX6_roof_95 : decode cX6_roof 95 = .ok (.aload_n 0, 1) := by decide +kernel
theorem dX6_roof_96 : decode cX6_roof 96 = .ok (.getfield 10, 3) := by decide +kernel
theorem dX6_roof_99 : decode cX6_roof 99 = .ok (.iload_n 1, 1) := by decide +kernel
theorem dX6_roof_100 : decode cX6_roof 100 = .ok (.invokevirtual 177, 3) := by decide +kernel
theorem dX6_roof_103 : decode cX6_roof 103 = .ok (.ireturn, 1) := by decide +kernel
theorem dX6_roof_104 : decode cX6_roof 104 = .ok (.aload_n 0, 1) := by decide +kernel
theorem dX6_roof_105 : decode cX6_roof 105 = .ok (.getfield 10, 3) := by decide +kernel
theorem dX6_roof_108 : decode cX6_roof 108 = .ok (.getfield 94, 3) := by decide +kernel
theorem dX6_roof_111 : decode cX6_roof 111 = .ok (.iload_n 1, 1) := by decide +kernel
theorem dX6_roof_112 : decode cX6_roof 112 = .ok (.invokestatic 174, 3) := by decide +kernel
theorem dX6_roof_115 : decode cX6_roof 115 = .ok (.ireturn, 1) := by decide +kernel
theorem dX6_roof_116 : decode cX6_roof 116 = .ok (.aload_n 0, 1) := by decide +kernel
theorem dX6_roof_117 : decode cX6_roof 117 = .ok (.getfield 10, 3) := by decide +kernel
theorem dX6_roof_120 : decode cX6_roof 120 = .ok (.iload_n 1, 1) := by decide +kernel
theorem dX6_roof_121 : decode cX6_roof 121 = .ok (.invokevirtual 180, 3) := by decide +kernel
theorem dX6_roof_124 : decode cX6_roof 124 = .ok (.ireturn, 1) := by decide +kernel
theorem dX6_roof_125 : decode cX6_roof 125 = .ok (.aload_n 0, 1) := by decide +kernel
theorem dX6_roof_126 : decode cX6_roof 126 = .ok (.getfield 10, 3) := by decide +kernel
theorem dX6_roof_129 : decode cX6_roof 129 = .ok (.invokevirtual 183, 3) := by decide +kernel
theorem dX6_roof_132 : decode cX6_roof 132 = .ok (.iload_n 1, 1) := by decide +kernel
theorem dX6_roof_133 : decode cX6_roof 133 = .ok (.invokestatic 186, 3) := by decide +kernel
theorem dX6_roof_136 : decode cX6_roof 136 = .ok (.iand, 1) := by decide +kernel
theorem dX6_roof_137 : decode cX6_roof 137 = .ok (.invokestatic 89, 3) := by decide +kernel
theorem dX6_roof_140 : decode cX6_roof 140 = .ok (.ireturn, 1) := by decide +kernel
theorem dX6_roof_141 : decode cX6_roof 141 = .ok (.aload_n 0, 1) := by decide +kernel
theorem dX6_roof_142 : decode cX6_roof 142 = .ok (.getfield 10, 3) := by decide +kernel
theorem dX6_roof_145 : decode cX6_roof 145 = .ok (.invokevirtual 189, 3) := by decide +kernel
theorem dX6_roof_148 : decode cX6_roof 148 = .ok (.iload_n 1, 1) := by decide +kernel
theorem dX6_roof_149 : decode cX6_roof 149 = .ok (.invokestatic 186, 3) := by decide +kernel
theorem dX6_roof_152 : decode cX6_roof 152 = .ok (.iand, 1) := by decide +kernel
theorem dX6_roof_153 : decode cX6_roof 153 = .ok (.invokestatic 89, 3) := by decide +kernel
theorem dX6_roof_156 : decode cX6_roof 156 = .ok (.ireturn, 1) := by decide +kernel
theorem dX6_roof_157 : decode cX6_roof 157 = .ok (.aload_n 0, 1) := by decide +kernel
theorem dX6_roof_158 : decode cX6_roof 158 = .ok (.getfield 32, 3) := by decide +kernel
theorem dX6_roof_161 : decode cX6_roof 161 = .ok (.aload_n 0, 1) := by decide +kernel
theorem dX6_roof_162 : decode cX6_roof 162 = .ok (.getfield 10, 3) := by decide +kernel
theorem dX6_roof_165 : decode cX6_roof 165 = .ok (.iload_n 1, 1) := by decide +kernel
theorem dX6_roof_166 : decode cX6_roof 166 = .ok (.invokevirtual 192, 3) := by decide +kernel
theorem dX6_roof_169 : decode cX6_roof 169 = .ok (.invokestatic 89, 3) := by decide +kernel
theorem dX6_roof_172 : decode cX6_roof 172 = .ok (.ireturn, 1) := by decide +kernel
theorem dX6_gangway_0 : decode cX6_gangway 0 = .ok (.iload_n 1, 1) := by decide +kernel
theorem dX6_gangway_1 : decode cX6_gangway 1 = .ok (.invokestatic 52, 3) := by decide +kernel
theorem dX6_gangway_4 : decode cX6_gangway 4 = .ok (.ifCond .eq 13, 3) := by decide +kernel
theorem dX6_gangway_7 : decode cX6_gangway 7 = .ok (.iload_n 2, 1) := by decide +kernel
theorem dX6_gangway_8 : decode cX6_gangway 8 = .ok (.iconst 0, 1) := by decide +kernel
theorem dX6_gangway_9 : decode cX6_gangway 9 = .ok (.bipush 6, 2) := by decide +kernel
theorem dX6_gangway_11 : decode cX6_gangway 11 = .ok (.invokestatic 58, 3) := by decide +kernel
theorem dX6_gangway_14 : decode cX6_gangway 14 = .ok (.ifCond .ne 5, 3) := by decide +kernel
theorem dX6_gangway_17 : decode cX6_gangway 17 = .ok (.iconst (-1), 1) := by decide +kernel
theorem dX6_gangway_18 : decode cX6_gangway 18 = .ok (.ireturn, 1) := by decide +kernel
theorem dX6_gangway_19 : decode cX6_gangway 19 = .ok (.iload_n 2, 1) := by decide +kernel
theorem dX6_gangway_20 : decode cX6_gangway 20 = .ok (.tableswitch 138 0 5 #[40, 50, 55, 60, 86, 112], 40) := by decide +kernel
theorem dX6_gangway_60 : decode cX6_gangway 60 = .ok (.aload_n 0, 1) := by decide +kernel
theorem dX6_gangway_61 : decode cX6_gangway 61 = .ok (.getfield 10, 3) := by decide +kernel
theorem dX6_gangway_64 : decode cX6_gangway 64 = .ok (.getfield 66, 3) := by decide +kernel
theorem dX6_gangway_67 : decode cX6_gangway 67 = .ok (.iload_n 1, 1) := by decide +kernel
theorem dX6_gangway_68 : decode cX6_gangway 68 = .ok (.iaload, 1) := by decide +kernel
theorem dX6_gangway_69 : decode cX6_gangway 69 = .ok (.ireturn, 1) := by decide +kernel
theorem dX6_gangway_70 : decode cX6_gangway 70 = .ok (.iload_n 1, 1) := by decide +kernel
theorem dX6_gangway_71 : decode cX6_gangway 71 = .ok (.invokestatic 196, 3) := by decide +kernel
theorem dX6_gangway_74 : decode cX6_gangway 74 = .ok (.ireturn, 1) := by decide +kernel
theorem dX6_gangway_75 : decode cX6_gangway 75 = .ok (.iload_n 1, 1) := by decide +kernel
theorem dX6_gangway_76 : decode cX6_gangway 76 = .ok (.invokestatic 199, 3) := by decide +kernel
theorem dX6_gangway_79 : decode cX6_gangway 79 = .ok (.ireturn, 1) := by decide +kernel
theorem dX6_gangway_80 : decode cX6_gangway 80 = .ok (.aload_n 0, 1) := by decide +kernel
theorem dX6_gangway_81 : decode cX6_gangway 81 = .ok (.getfield 10, 3) := by decide +kernel
theorem dX6_gangway_84 : decode cX6_gangway 84 = .ok (.iload_n 1, 1) := by decide +kernel
theorem dX6_gangway_85 : decode cX6_gangway 85 = .ok (.invokevirtual 202, 3) := by decide +kernel
theorem dX6_gangway_88 : decode cX6_gangway 88 = .ok (.ifCond .eq 15, 3) := by decide +kernel
theorem dX6_gangway_91 : decode cX6_gangway 91 = .ok (.aload_n 0, 1) := by decide +kernel
theorem dX6_gangway_92 : decode cX6_gangway 92 = .ok (.getfield 10, 3) := by decide +kernel
theorem dX6_gangway_95 : decode cX6_gangway 95 = .ok (.getfield 205, 3) := by decide +kernel
theorem dX6_gangway_98 : decode cX6_gangway 98 = .ok (.iload_n 1, 1) := by decide +kernel
theorem dX6_gangway_99 : decode cX6_gangway 99 = .ok (.iaload, 1) := by decide +kernel
theorem dX6_gangway_100 : decode cX6_gangway 100 = .ok (.goto 5, 3) := by decide +kernel
theorem dX6_gangway_103 : decode cX6_gangway 103 = .ok (.bipush (-4), 2) := by decide +kernel
theorem dX6_gangway_105 : decode cX6_gangway 105 = .ok (.ireturn, 1) := by decide +kernel
theorem dX6_gangway_106 : decode cX6_gangway 106 = .ok (.aload_n 0, 1) := by decide +kernel
theorem dX6_gangway_107 : decode cX6_gangway 107 = .ok (.getfield 10, 3) := by decide +kernel
theorem dX6_gangway_110 : decode cX6_gangway 110 = .ok (.iload_n 1, 1) := by decide +kernel
theorem dX6_gangway_111 : decode cX6_gangway 111 = .ok (.invokevirtual 202, 3) := by decide +kernel
theorem dX6_gangway_114 : decode cX6_gangway 114 = .ok (.ifCond .eq 15, 3) := by decide +kernel
theorem dX6_gangway_117 : decode cX6_gangway 117 = .ok (.aload_n 0, 1) := by decide +kernel
theorem dX6_gangway_118 : decode cX6_gangway 118 = .ok (.getfield 10, 3) := by decide +kernel
theorem dX6_gangway_121 : decode cX6_gangway 121 = .ok (.getfield 208, 3) := by decide +kernel
theorem dX6_gangway_124 : decode cX6_gangway 124 = .ok (.iload_n 1, 1) := by decide +kernel
theorem dX6_gangway_125 : decode cX6_gangway 125 = .ok (.iaload, 1) := by decide +kernel
theorem dX6_gangway_126 : decode cX6_gangway 126 = .ok (.goto 5, 3) := by decide +kernel
theorem dX6_gangway_129 : decode cX6_gangway 129 = .ok (.bipush (-4), 2) := by decide +kernel
theorem dX6_gangway_131 : decode cX6_gangway 131 = .ok (.ireturn, 1) := by decide +kernel
theorem dX6_gangway_132 : decode cX6_gangway 132 = .ok (.aload_n 0, 1) := by decide +kernel
theorem dX6_gangway_133 : decode cX6_gangway 133 = .ok (.getfield 10, 3) := by decide +kernel
theorem dX6_gangway_136 : decode cX6_gangway 136 = .ok (.iload_n 1, 1) := by decide +kernel
theorem dX6_gangway_137 : decode cX6_gangway 137 = .ok (.invokevirtual 202, 3) := by decide +kernel
theorem dX6_gangway_140 : decode cX6_gangway 140 = .ok (.ifCond .eq 15, 3) := by decide +kernel
theorem dX6_gangway_143 : decode cX6_gangway 143 = .ok (.aload_n 0, 1) := by decide +kernel
theorem dX6_gangway_144 : decode cX6_gangway 144 = .ok (.getfield 10, 3) := by decide +kernel
theorem dX6_gangway_147 : decode cX6_gangway 147 = .ok (.getfield 211, 3) := by decide +kernel
theorem dX6_gangway_150 : decode cX6_gangway 150 = .ok (.iload_n 1, 1) := by decide +kernel
theorem dX6_gangway_151 : decode cX6_gangway 151 = .ok (.iaload, 1) := by decide +kernel
theorem dX6_gangway_152 : decode cX6_gangway 152 = .ok (.goto 5, 3) := by decide +kernel
theorem dX6_gangway_155 : decode cX6_gangway 155 = .ok (.bipush (-4), 2) := by decide +kernel
theorem dX6_gangway_157 : decode cX6_gangway 157 = .ok (.ireturn, 1) := by decide +kernel
theorem dX6_gangway_158 : decode cX6_gangway 158 = .ok (.aload_n 0, 1) := by decide +kernel
theorem dX6_gangway_159 : decode cX6_gangway 159 = .ok (.getfield 10, 3) := by decide +kernel
theorem dX6_gangway_162 : decode cX6_gangway 162 = .ok (.aload_n 0, 1) := by decide +kernel
theorem dX6_gangway_163 : decode cX6_gangway 163 = .ok (.getfield 10, 3) := by decide +kernel
theorem dX6_gangway_166 : decode cX6_gangway 166 = .ok (.getfield 74, 3) := by decide +kernel
theorem dX6_gangway_169 : decode cX6_gangway 169 = .ok (.invokevirtual 85, 3) := by decide +kernel
theorem dX6_gangway_172 : decode cX6_gangway 172 = .ok (.iload_n 1, 1) := by decide +kernel
theorem dX6_gangway_173 : decode cX6_gangway 173 = .ok (.invokestatic 214, 3) := by decide +kernel
theorem dX6_gangway_176 : decode cX6_gangway 176 = .ok (.iand, 1) := by decide +kernel
theorem dX6_gangway_177 : decode cX6_gangway 177 = .ok (.invokestatic 89, 3) := by decide +kernel
theorem dX6_gangway_180 : decode cX6_gangway 180 = .ok (.ireturn, 1) := by decide +kernel
theorem dX6_ownerOf_0 : decode cX6_ownerOf 0 = .ok (.iload_n 1, 1) := by decide +kernel
theorem dX6_ownerOf_1 : decode cX6_ownerOf 1 = .ok (.invokestatic 97, 3) := by decide +kernel
theorem dX6_ownerOf_4 : decode cX6_ownerOf 4 = .ok (.ifCond .eq 13, 3) := by decide +kernel
theorem dX6_ownerOf_7 : decode cX6_ownerOf 7 = .ok (.iload_n 2, 1) := by decide +kernel
theorem dX6_ownerOf_8 : decode cX6_ownerOf 8 = .ok (.iconst 0, 1) := by decide +kernel
theorem dX6_ownerOf_9 : decode cX6_ownerOf 9 = .ok (.bipush 8, 2) := by decide +kernel
theorem dX6_ownerOf_11 : decode cX6_ownerOf 11 = .ok (.invokestatic 58, 3) := by decide +kernel
theorem dX6_ownerOf_14 : decode cX6_ownerOf 14 = .ok (.ifCond .ne 5, 3) := by decide +kernel
theorem dX6_ownerOf_17 : decode cX6_ownerOf 17 = .ok (.iconst (-1), 1) := by decide +kernel
theorem dX6_ownerOf_18 : decode cX6_ownerOf 18 = .ok (.ireturn, 1) := by decide +kernel
theorem dX6_ownerOf_19 : decode cX6_ownerOf 19 = .ok (.iload_n 2, 1) := by decide +kernel
theorem dX6_ownerOf_20 : decode cX6_ownerOf 20 = .ok (.tableswitch 141 0 7 #[48, 58, 68, 80, 90, 102, 122, 131], 48) := by decide +kernel
theorem dX6_ownerOf_68 : decode cX6_ownerOf 68 = .ok (.aload_n 0, 1) := by decide +kernel
theorem dX6_ownerOf_69 : decode cX6_ownerOf 69 = .ok (.getfield 10, 3) := by decide +kernel
theorem dX6_ownerOf_72 : decode cX6_ownerOf 72 = .ok (.getfield 101, 3) := by decide +kernel
theorem dX6_ownerOf_75 : decode cX6_ownerOf 75 = .ok (.iload_n 1, 1) := by decide +kernel
theorem dX6_ownerOf_76 : decode cX6_ownerOf 76 = .ok (.iaload, 1) := by decide +kernel
theorem dX6_ownerOf_77 : decode cX6_ownerOf 77 = .ok (.ireturn, 1) := by decide +kernel
theorem dX6_ownerOf_78 : decode cX6_ownerOf 78 = .ok (.aload_n 0, 1) := by decide +kernel
theorem dX6_ownerOf_79 : decode cX6_ownerOf 79 = .ok (.getfield 10, 3) := by decide +kernel
theorem dX6_ownerOf_82 : decode cX6_ownerOf 82 = .ok (.getfield 104, 3) := by decide +kernel
theorem dX6_ownerOf_85 : decode cX6_ownerOf 85 = .ok (.iload_n 1, 1) := by decide +kernel
theorem dX6_ownerOf_86 : decode cX6_ownerOf 86 = .ok (.iaload, 1) := by decide +kernel
theorem dX6_ownerOf_87 : decode cX6_ownerOf 87 = .ok (.ireturn, 1) := by decide +kernel
theorem dX6_ownerOf_88 : decode cX6_ownerOf 88 = .ok (.aload_n 0, 1) := by decide +kernel
theorem dX6_ownerOf_89 : decode cX6_ownerOf 89 = .ok (.getfield 10, 3) := by decide +kernel
theorem dX6_ownerOf_92 : decode cX6_ownerOf 92 = .ok (.getfield 217, 3) := by decide +kernel
theorem dX6_ownerOf_95 : decode cX6_ownerOf 95 = .ok (.iload_n 1, 1) := by decide +kernel
theorem dX6_ownerOf_96 : decode cX6_ownerOf 96 = .ok (.invokestatic 174, 3) := by decide +kernel
theorem dX6_ownerOf_99 : decode cX6_ownerOf 99 = .ok (.ireturn, 1) := by decide +kernel
theorem dX6_ownerOf_100 : decode cX6_ownerOf 100 = .ok (.aload_n 0, 1) := by decide +kernel
theorem dX6_ownerOf_101 : decode cX6_ownerOf 101 = .ok (.getfield 10, 3) := by decide +kernel
theorem dX6_ownerOf_104 : decode cX6_ownerOf 104 = .ok (.getfield 220, 3) := by decide +kernel
theorem dX6_ownerOf_107 : decode cX6_ownerOf 107 = .ok (.iload_n 1, 1) := by decide +kernel
theorem dX6_ownerOf_108 : decode cX6_ownerOf 108 = .ok (.iaload, 1) := by decide +kernel
theorem dX6_ownerOf_109 : decode cX6_ownerOf 109 = .ok (.ireturn, 1) := by decide +kernel
theorem dX6_ownerOf_110 : decode cX6_ownerOf 110 = .ok (.aload_n 0, 1) := by decide +kernel
theorem dX6_ownerOf_111 : decode cX6_ownerOf 111 = .ok (.getfield 10, 3) := by decide +kernel
theorem dX6_ownerOf_114 : decode cX6_ownerOf 114 = .ok (.iload_n 1, 1) := by decide +kernel
theorem dX6_ownerOf_115 : decode cX6_ownerOf 115 = .ok (.invokevirtual 223, 3) := by decide +kernel
theorem dX6_ownerOf_118 : decode cX6_ownerOf 118 = .ok (.invokestatic 89, 3) := by decide +kernel
theorem dX6_ownerOf_121 : decode cX6_ownerOf 121 = .ok (.ireturn, 1) := by decide +kernel
theorem dX6_ownerOf_122 : decode cX6_ownerOf 122 = .ok (.aload_n 0, 1) := by decide +kernel
theorem dX6_ownerOf_123 : decode cX6_ownerOf 123 = .ok (.getfield 10, 3) := by decide +kernel
theorem dX6_ownerOf_126 : decode cX6_ownerOf 126 = .ok (.iload_n 1, 1) := by decide +kernel
theorem dX6_ownerOf_127 : decode cX6_ownerOf 127 = .ok (.invokevirtual 223, 3) := by decide +kernel
theorem dX6_ownerOf_130 : decode cX6_ownerOf 130 = .ok (.aload_n 0, 1) := by decide +kernel
theorem dX6_ownerOf_131 : decode cX6_ownerOf 131 = .ok (.getfield 10, 3) := by decide +kernel
theorem dX6_ownerOf_134 : decode cX6_ownerOf 134 = .ok (.invokevirtual 131, 3) := by decide +kernel
theorem dX6_ownerOf_137 : decode cX6_ownerOf 137 = .ok (.iand, 1) := by decide +kernel
theorem dX6_ownerOf_138 : decode cX6_ownerOf 138 = .ok (.invokestatic 89, 3) := by decide +kernel
theorem dX6_ownerOf_141 : decode cX6_ownerOf 141 = .ok (.ireturn, 1) := by decide +kernel
theorem dX6_ownerOf_142 : decode cX6_ownerOf 142 = .ok (.aload_n 0, 1) := by decide +kernel
theorem dX6_ownerOf_143 : decode cX6_ownerOf 143 = .ok (.getfield 10, 3) := by decide +kernel
theorem dX6_ownerOf_146 : decode cX6_ownerOf 146 = .ok (.iload_n 1, 1) := by decide +kernel
theorem dX6_ownerOf_147 : decode cX6_ownerOf 147 = .ok (.invokevirtual 226, 3) := by decide +kernel
theorem dX6_ownerOf_150 : decode cX6_ownerOf 150 = .ok (.ireturn, 1) := by decide +kernel
theorem dX6_ownerOf_151 : decode cX6_ownerOf 151 = .ok (.aload_n 0, 1) := by decide +kernel
theorem dX6_ownerOf_152 : decode cX6_ownerOf 152 = .ok (.getfield 10, 3) := by decide +kernel
theorem dX6_ownerOf_155 : decode cX6_ownerOf 155 = .ok (.getfield 229, 3) := by decide +kernel
theorem dX6_ownerOf_158 : decode cX6_ownerOf 158 = .ok (.iload_n 1, 1) := by decide +kernel
theorem dX6_ownerOf_159 : decode cX6_ownerOf 159 = .ok (.iaload, 1) := by decide +kernel
theorem dX6_ownerOf_160 : decode cX6_ownerOf 160 = .ok (.ireturn, 1) := by decide +kernel
theorem dX6_ownerOf_161 : decode cX6_ownerOf 161 = .ok (.aload_n 0, 1) := by decide +kernel
theorem dX6_ownerOf_162 : decode cX6_ownerOf 162 = .ok (.getfield 10, 3) := by decide +kernel
theorem dX6_ownerOf_165 : decode cX6_ownerOf 165 = .ok (.iload_n 1, 1) := by decide +kernel
theorem dX6_ownerOf_166 : decode cX6_ownerOf 166 = .ok (.invokevirtual 232, 3) := by decide +kernel
theorem dX6_ownerOf_169 : decode cX6_ownerOf 169 = .ok (.ireturn, 1) := by decide +kernel
theorem dX6_whyNotHang_0 : decode cX6_whyNotHang 0 = .ok (.iload_n 1, 1) := by decide +kernel
theorem dX6_whyNotHang_1 : decode cX6_whyNotHang 1 = .ok (.invokestatic 97, 3) := by decide +kernel
theorem dX6_whyNotHang_4 : decode cX6_whyNotHang 4 = .ok (.ifCond .eq 10, 3) := by decide +kernel
theorem dX6_whyNotHang_7 : decode cX6_whyNotHang 7 = .ok (.iload_n 2, 1) := by decide +kernel
theorem dX6_whyNotHang_8 : decode cX6_whyNotHang 8 = .ok (.invokestatic 52, 3) := by decide +kernel
theorem dX6_whyNotHang_11 : decode cX6_whyNotHang 11 = .ok (.ifCond .ne 5, 3) := by decide +kernel
theorem dX6_whyNotHang_14 : decode cX6_whyNotHang 14 = .ok (.iconst (-1), 1) := by decide +kernel
theorem dX6_whyNotHang_15 : decode cX6_whyNotHang 15 = .ok (.ireturn, 1) := by decide +kernel
theorem dX6_whyNotHang_16 : decode cX6_whyNotHang 16 = .ok (.aload_n 0, 1) := by decide +kernel
theorem dX6_whyNotHang_17 : decode cX6_whyNotHang 17 = .ok (.getfield 10, 3) := by decide +kernel
theorem dX6_whyNotHang_20 : decode cX6_whyNotHang 20 = .ok (.iload_n 1, 1) := by decide +kernel
theorem dX6_whyNotHang_21 : decode cX6_whyNotHang 21 = .ok (.iload_n 2, 1) := by decide +kernel
theorem dX6_whyNotHang_22 : decode cX6_whyNotHang 22 = .ok (.invokevirtual 235, 3) := by decide +kernel
theorem dX6_whyNotHang_25 : decode cX6_whyNotHang 25 = .ok (.ireturn, 1) := by decide +kernel
theorem dX6_strongest_0 : decode cX6_strongest 0 = .ok (.iload_n 1, 1) := by decide +kernel
theorem dX6_strongest_1 : decode cX6_strongest 1 = .ok (.invokestatic 78, 3) := by decide +kernel
theorem dX6_strongest_4 : decode cX6_strongest 4 = .ok (.ifCond .eq 19, 3) := by decide +kernel
theorem dX6_strongest_7 : decode cX6_strongest 7 = .ok (.iload_n 2, 1) := by decide +kernel
theorem dX6_strongest_8 : decode cX6_strongest 8 = .ok (.invokestatic 78, 3) := by decide +kernel
theorem dX6_strongest_11 : decode cX6_strongest 11 = .ok (.ifCond .eq 12, 3) := by decide +kernel
theorem dX6_strongest_14 : decode cX6_strongest 14 = .ok (.iload_n 3, 1) := by decide +kernel
theorem dX6_strongest_15 : decode cX6_strongest 15 = .ok (.iconst 0, 1) := by decide +kernel
theorem dX6_strongest_16 : decode cX6_strongest 16 = .ok (.iconst 1, 1) := by decide +kernel
theorem dX6_strongest_17 : decode cX6_strongest 17 = .ok (.invokestatic 58, 3) := by decide +kernel
theorem dX6_strongest_20 : decode cX6_strongest 20 = .ok (.ifCond .ne 5, 3) := by decide +kernel
theorem dX6_strongest_23 : decode cX6_strongest 23 = .ok (.iconst (-1), 1) := by decide +kernel
theorem dX6_strongest_24 : decode cX6_strongest 24 = .ok (.ireturn, 1) := by decide +kernel
theorem dX6_strongest_25 : decode cX6_strongest 25 = .ok (.iload_n 3, 1) := by decide +kernel
theorem dX6_strongest_26 : decode cX6_strongest 26 = .ok (.ifCond .ne 19, 3) := by decide +kernel
theorem dX6_strongest_29 : decode cX6_strongest 29 = .ok (.aload_n 0, 1) := by decide +kernel
theorem dX6_strongest_30 : decode cX6_strongest 30 = .ok (.getfield 32, 3) := by decide +kernel
theorem dX6_strongest_33 : decode cX6_strongest 33 = .ok (.aload_n 0, 1) := by decide +kernel
theorem dX6_strongest_34 : decode cX6_strongest 34 = .ok (.getfield 10, 3) := by decide +kernel
theorem dX6_strongest_37 : decode cX6_strongest 37 = .ok (.iload_n 1, 1) := by decide +kernel
theorem dX6_strongest_38 : decode cX6_strongest 38 = .ok (.iload_n 2, 1) := by decide +kernel
theorem dX6_strongest_39 : decode cX6_strongest 39 = .ok (.invokevirtual 238, 3) := by decide +kernel
theorem dX6_strongest_42 : decode cX6_strongest 42 = .ok (.goto 16, 3) := by decide +kernel
theorem dX6_strongest_45 : decode cX6_strongest 45 = .ok (.aload_n 0, 1) := by decide +kernel
theorem dX6_strongest_46 : decode cX6_strongest 46 = .ok (.getfield 32, 3) := by decide +kernel
theorem dX6_strongest_49 : decode cX6_strongest 49 = .ok (.aload_n 0, 1) := by decide +kernel
theorem dX6_strongest_50 : decode cX6_strongest 50 = .ok (.getfield 10, 3) := by decide +kernel
theorem dX6_strongest_53 : decode cX6_strongest 53 = .ok (.iload_n 1, 1) := by decide +kernel
theorem dX6_strongest_54 : decode cX6_strongest 54 = .ok (.iload_n 2, 1) := by decide +kernel
theorem dX6_strongest_55 : decode cX6_strongest 55 = .ok (.invokevirtual 242, 3) := by decide +kernel
theorem dX6_strongest_58 : decode cX6_strongest 58 = .ok (.ireturn, 1) := by decide +kernel
theorem dX6_steps_0 : decode cX6_steps 0 = .ok (.iload_n 1, 1) := by decide +kernel
theorem dX6_steps_1 : decode cX6_steps 1 = .ok (.invokestatic 97, 3) := by decide +kernel
theorem dX6_steps_4 : decode cX6_steps 4 = .ok (.ifCond .eq 10, 3) := by decide +kernel
theorem dX6_steps_7 : decode cX6_steps 7 = .ok (.iload_n 2, 1) := by decide +kernel
theorem dX6_steps_8 : decode cX6_steps 8 = .ok (.invokestatic 78, 3) := by decide +kernel
theorem dX6_steps_11 : decode cX6_steps 11 = .ok (.ifCond .ne 5, 3) := by decide +kernel
theorem dX6_steps_14 : decode cX6_steps 14 = .ok (.iconst (-1), 1) := by decide +kernel
theorem dX6_steps_15 : decode cX6_steps 15 = .ok (.ireturn, 1) := by decide +kernel
theorem dX6_steps_16 : decode cX6_steps 16 = .ok (.aload_n 0, 1) := by decide +kernel
theorem dX6_steps_17 : decode cX6_steps 17 = .ok (.getfield 32, 3) := by decide +kernel
theorem dX6_steps_20 : decode cX6_steps 20 = .ok (.aload_n 0, 1) := by decide +kernel
theorem dX6_steps_21 : decode cX6_steps 21 = .ok (.getfield 10, 3) := by decide +kernel
theorem dX6_steps_24 : decode cX6_steps 24 = .ok (.iload_n 1, 1) := by decide +kernel
theorem dX6_steps_25 : decode cX6_steps 25 = .ok (.iload_n 2, 1) := by decide +kernel
theorem dX6_steps_26 : decode cX6_steps 26 = .ok (.invokevirtual 245, 3) := by decide +kernel
theorem dX6_steps_29 : decode cX6_steps 29 = .ok (.ireturn, 1) := by decide +kernel
theorem dX6_count_0 : decode cX6_count 0 = .ok (.iload_n 1, 1) := by decide +kernel
theorem dX6_count_1 : decode cX6_count 1 = .ok (.iconst 0, 1) := by decide +kernel
theorem dX6_count_2 : decode cX6_count 2 = .ok (.bipush 17, 2) := by decide +kernel
theorem dX6_count_4 : decode cX6_count 4 = .ok (.invokestatic 58, 3) := by decide +kernel
theorem dX6_count_7 : decode cX6_count 7 = .ok (.ifCond .ne 5, 3) := by decide +kernel
theorem dX6_count_10 : decode cX6_count 10 = .ok (.iconst (-1), 1) := by decide +kernel
theorem dX6_count_11 : decode cX6_count 11 = .ok (.ireturn, 1) := by decide +kernel
theorem dX6_count_12 : decode cX6_count 12 = .ok (.iload_n 1, 1) := by decide +kernel
theorem dX6_count_13 : decode cX6_count 13 = .ok (.bipush 16, 2) := by decide +kernel
theorem dX6_count_15 : decode cX6_count 15 = .ok (.if_icmp .ne 11, 3) := by decide +kernel
theorem dX6_count_18 : decode cX6_count 18 = .ok (.aload_n 0, 1) := by decide +kernel
theorem dX6_count_19 : decode cX6_count 19 = .ok (.getfield 39, 3) := by decide +kernel
theorem dX6_count_22 : decode cX6_count 22 = .ok (.getfield 135, 3) := by decide +kernel
theorem dX6_count_25 : decode cX6_count 25 = .ok (.ireturn, 1) := by decide +kernel
theorem dX6_count_26 : decode cX6_count 26 = .ok (.iload_n 1, 1) := by decide +kernel
theorem dX6_count_27 : decode cX6_count 27 = .ok (.bipush 17, 2) := by decide +kernel
theorem dX6_count_29 : decode cX6_count 29 = .ok (.if_icmp .ne 11, 3) := by decide +kernel
theorem dX6_count_32 : decode cX6_count 32 = .ok (.aload_n 0, 1) := by decide +kernel
theorem dX6_count_33 : decode cX6_count 33 = .ok (.getfield 25, 3) := by decide +kernel
theorem dX6_count_36 : decode cX6_count 36 = .ok (.getfield 248, 3) := by decide +kernel
theorem dX6_count_39 : decode cX6_count 39 = .ok (.ireturn, 1) := by decide +kernel
theorem dX6_count_40 : decode cX6_count 40 = .ok (.iload_n 1, 1) := by decide +kernel
theorem dX6_count_41 : decode cX6_count 41 = .ok (.bipush 10, 2) := by decide +kernel
theorem dX6_count_43 : decode cX6_count 43 = .ok (.if_icmp .ge 14, 3) := by decide +kernel
theorem dX6_count_46 : decode cX6_count 46 = .ok (.aload_n 0, 1) := by decide +kernel
theorem dX6_count_47 : decode cX6_count 47 = .ok (.getfield 10, 3) := by decide +kernel
theorem dX6_count_50 : decode cX6_count 50 = .ok (.iload_n 1, 1) := by decide +kernel
theorem dX6_count_51 : decode cX6_count 51 = .ok (.invokevirtual 251, 3) := by decide +kernel
theorem dX6_count_54 : decode cX6_count 54 = .ok (.goto 11, 3) := by decide +kernel
theorem dX6_count_57 : decode cX6_count 57 = .ok (.aload_n 0, 1) := by decide +kernel
theorem dX6_count_58 : decode cX6_count 58 = .ok (.getfield 10, 3) := by decide +kernel
theorem dX6_count_61 : decode cX6_count 61 = .ok (.iload_n 1, 1) := by decide +kernel
theorem dX6_count_62 : decode cX6_count 62 = .ok (.invokevirtual 254, 3) := by decide +kernel
theorem dX6_count_65 : decode cX6_count 65 = .ok (.ireturn, 1) := by decide +kernel
theorem dX6_cleanness_0 : decode cX6_cleanness 0 = .ok (.aload_n 0, 1) := by decide +kernel
theorem dX6_cleanness_1 : decode cX6_cleanness 1 = .ok (.getfield 10, 3) := by decide +kernel
theorem dX6_cleanness_4 : decode cX6_cleanness 4 = .ok (.invokevirtual 189, 3) := by decide +kernel
theorem dX6_cleanness_7 : decode cX6_cleanness 7 = .ok (.invokestatic 89, 3) := by decide +kernel
theorem dX6_cleanness_10 : decode cX6_cleanness 10 = .ok (.istore_n 1, 1) := by decide +kernel
theorem dX6_cleanness_11 : decode cX6_cleanness 11 = .ok (.iload_n 1, 1) := by decide +kernel
theorem dX6_cleanness_12 : decode cX6_cleanness 12 = .ok (.ifCond .ne 5, 3) := by decide +kernel
theorem dX6_cleanness_15 : decode cX6_cleanness 15 = .ok (.dconst 1, 1) := by decide +kernel
theorem dX6_cleanness_16 : decode cX6_cleanness 16 = .ok (.dreturn, 1) := by decide +kernel
theorem dX6_cleanness_17 : decode cX6_cleanness 17 = .ok (.aload_n 0, 1) := by decide +kernel
theorem dX6_cleanness_18 : decode cX6_cleanness 18 = .ok (.getfield 10, 3) := by decide +kernel
theorem dX6_cleanness_21 : decode cX6_cleanness 21 = .ok (.invokevirtual 131, 3) := by decide +kernel
theorem dX6_cleanness_24 : decode cX6_cleanness 24 = .ok (.invokestatic 89, 3) := by decide +kernel
theorem dX6_cleanness_27 : decode cX6_cleanness 27 = .ok (.i2d, 1) := by decide +kernel
theorem dX6_cleanness_28 : decode cX6_cleanness 28 = .ok (.iload_n 1, 1) := by decide +kernel
theorem dX6_cleanness_29 : decode cX6_cleanness 29 = .ok (.i2d, 1) := by decide +kernel
theorem dX6_cleanness_30 : decode cX6_cleanness 30 = .ok (.ddiv, 1) := by decide +kernel
theorem dX6_cleanness_31 : decode cX6_cleanness 31 = .ok (.dreturn, 1) := by decide +kernel
theorem dX6_ifWind_0 : decode cX6_ifWind 0 = .ok (.iload_n 1, 1) := by decide +kernel
theorem dX6_ifWind_1 : decode cX6_ifWind 1 = .ok (.iconst 0, 1) := by decide +kernel
theorem dX6_ifWind_2 : decode cX6_ifWind 2 = .ok (.iconst 3, 1) := by decide +kernel
theorem dX6_ifWind_3 : decode cX6_ifWind 3 = .ok (.invokestatic 58, 3) := by decide +kernel
theorem dX6_ifWind_6 : decode cX6_ifWind 6 = .ok (.ifCond .ne 5, 3) := by decide +kernel
theorem dX6_ifWind_9 : decode cX6_ifWind 9 = .ok (.iconst (-1), 1) := by decide +kernel
theorem dX6_ifWind_10 : decode cX6_ifWind 10 = .ok (.ireturn, 1) := by decide +kernel
theorem dX6_ifWind_11 : decode cX6_ifWind 11 = .ok (.aload_n 0, 1) := by decide +kernel
theorem dX6_ifWind_12 : decode cX6_ifWind 12 = .ok (.getfield 10, 3) := by decide +kernel
theorem dX6_ifWind_15 : decode cX6_ifWind 15 = .ok (.iload_n 1, 1) := by decide +kernel
theorem dX6_ifWind_16 : decode cX6_ifWind 16 = .ok (.invokevirtual 257, 3) := by decide +kernel
theorem dX6_ifWind_19 : decode cX6_ifWind 19 = .ok (.ireturn, 1) := by decide +kernel
theorem dX6_bestWind_0 : decode cX6_bestWind 0 = .ok (.iconst 0, 1) := by decide +kernel
theorem dX6_bestWind_1 : decode cX6_bestWind 1 = .ok (.istore_n 1, 1) := by decide +kernel
theorem dX6_bestWind_2 : decode cX6_bestWind 2 = .ok (.iconst 1, 1) := by decide +kernel
theorem dX6_bestWind_3 : decode cX6_bestWind 3 = .ok (.istore_n 2, 1) := by decide +kernel
theorem dX6_bestWind_4 : decode cX6_bestWind 4 = .ok (.iload_n 2, 1) := by decide +kernel
theorem dX6_bestWind_5 : decode cX6_bestWind 5 = .ok (.iconst 4, 1) := by decide +kernel
theorem dX6_bestWind_6 : decode cX6_bestWind 6 = .ok (.if_icmp .ge 30, 3) := by decide +kernel
theorem dX6_bestWind_9 : decode cX6_bestWind 9 = .ok (.aload_n 0, 1) := by decide +kernel
theorem dX6_bestWind_10 : decode cX6_bestWind 10 = .ok (.getfield 10, 3) := by decide +kernel
theorem dX6_bestWind_13 : decode cX6_bestWind 13 = .ok (.iload_n 2, 1) := by decide +kernel
theorem dX6_bestWind_14 : decode cX6_bestWind 14 = .ok (.invokevirtual 257, 3) := by decide +kernel
theorem dX6_bestWind_17 : decode cX6_bestWind 17 = .ok (.aload_n 0, 1) := by decide +kernel
theorem dX6_bestWind_18 : decode cX6_bestWind 18 = .ok (.getfield 10, 3) := by decide +kernel
theorem dX6_bestWind_21 : decode cX6_bestWind 21 = .ok (.iload_n 1, 1) := by decide +kernel
theorem dX6_bestWind_22 : decode cX6_bestWind 22 = .ok (.invokevirtual 257, 3) := by decide +kernel
theorem dX6_bestWind_25 : decode cX6_bestWind 25 = .ok (.if_icmp .ge 5, 3) := by decide +kernel
theorem dX6_bestWind_28 : decode cX6_bestWind 28 = .ok (.iload_n 2, 1) := by decide +kernel
theorem dX6_bestWind_29 : decode cX6_bestWind 29 = .ok (.istore_n 1, 1) := by decide +kernel
theorem dX6_bestWind_30 : decode cX6_bestWind 30 = .ok (.iinc 2 1, 3) := by decide +kernel
theorem dX6_bestWind_33 : decode cX6_bestWind 33 = .ok (.goto (-29), 3) := by decide +kernel
theorem dX6_bestWind_36 : decode cX6_bestWind 36 = .ok (.iload_n 1, 1) := by decide +kernel
theorem dX6_bestWind_37 : decode cX6_bestWind 37 = .ok (.ireturn, 1) := by decide +kernel
theorem dX6_ifDays_0 : decode cX6_ifDays 0 = .ok (.iload_n 1, 1) := by decide +kernel
theorem dX6_ifDays_1 : decode cX6_ifDays 1 = .ok (.iconst 1, 1) := by decide +kernel
theorem dX6_ifDays_2 : decode cX6_ifDays 2 = .ok (.bipush 30, 2) := by decide +kernel
theorem dX6_ifDays_4 : decode cX6_ifDays 4 = .ok (.invokestatic 58, 3) := by decide +kernel
theorem dX6_ifDays_7 : decode cX6_ifDays 7 = .ok (.ifCond .eq 12, 3) := by decide +kernel
theorem dX6_ifDays_10 : decode cX6_ifDays 10 = .ok (.iload_n 2, 1) := by decide +kernel
theorem dX6_ifDays_11 : decode cX6_ifDays 11 = .ok (.iconst 0, 1) := by decide +kernel
theorem dX6_ifDays_12 : decode cX6_ifDays 12 = .ok (.iconst 3, 1) := by decide +kernel
theorem dX6_ifDays_13 : decode cX6_ifDays 13 = .ok (.invokestatic 58, 3) := by decide +kernel
theorem dX6_ifDays_16 : decode cX6_ifDays 16 = .ok (.ifCond .ne 5, 3) := by decide +kernel
theorem dX6_ifDays_19 : decode cX6_ifDays 19 = .ok (.iconst (-1), 1) := by decide +kernel
theorem dX6_ifDays_20 : decode cX6_ifDays 20 = .ok (.ireturn, 1) := by decide +kernel
theorem dX6_ifDays_21 : decode cX6_ifDays 21 = .ok (.aload_n 0, 1) := by decide +kernel
theorem dX6_ifDays_22 : decode cX6_ifDays 22 = .ok (.getfield 16, 3) := by decide +kernel
theorem dX6_ifDays_25 : decode cX6_ifDays 25 = .ok (.aload_n 0, 1) := by decide +kernel
theorem dX6_ifDays_26 : decode cX6_ifDays 26 = .ok (.getfield 10, 3) := by decide +kernel
theorem dX6_ifDays_29 : decode cX6_ifDays 29 = .ok (.invokevirtual 260, 3) := by decide +kernel
theorem dX6_ifDays_32 : decode cX6_ifDays 32 = .ok (.iconst 0, 1) := by decide +kernel
theorem dX6_ifDays_33 : decode cX6_ifDays 33 = .ok (.istore_n 3, 1) := by decide +kernel
theorem dX6_ifDays_34 : decode cX6_ifDays 34 = .ok (.iload_n 3, 1) := by decide +kernel
theorem dX6_ifDays_35 : decode cX6_ifDays 35 = .ok (.iload_n 1, 1) := by decide +kernel
theorem dX6_ifDays_36 : decode cX6_ifDays 36 = .ok (.if_icmp .ge 16, 3) := by decide +kernel
theorem dX6_ifDays_39 : decode cX6_ifDays 39 = .ok (.aload_n 0, 1) := by decide +kernel
theorem dX6_ifDays_40 : decode cX6_ifDays 40 = .ok (.getfield 16, 3) := by decide +kernel
theorem dX6_ifDays_43 : decode cX6_ifDays 43 = .ok (.invokevirtual 128, 3) := by decide +kernel
theorem dX6_ifDays_46 : decode cX6_ifDays 46 = .ok (.iinc 3 1, 3) := by decide +kernel
theorem dX6_ifDays_49 : decode cX6_ifDays 49 = .ok (.goto (-15), 3) := by decide +kernel
theorem dX6_ifDays_52 : decode cX6_ifDays 52 = .ok (.iload_n 2, 1) := by decide +kernel
theorem dX6_ifDays_53 : decode cX6_ifDays 53 = .ok (.tableswitch 68 0 2 #[27, 38, 53], 27) := by decide +kernel
theorem dX6_ifDays_80 : decode cX6_ifDays 80 = .ok (.aload_n 0, 1) := by decide +kernel
theorem dX6_ifDays_81 : decode cX6_ifDays 81 = .ok (.getfield 16, 3) := by decide +kernel
theorem dX6_ifDays_84 : decode cX6_ifDays 84 = .ok (.invokevirtual 131, 3) := by decide +kernel
theorem dX6_ifDays_87 : decode cX6_ifDays 87 = .ok (.invokestatic 89, 3) := by decide +kernel
theorem dX6_ifDays_90 : decode cX6_ifDays 90 = .ok (.ireturn, 1) := by decide +kernel
theorem dX6_ifDays_91 : decode cX6_ifDays 91 = .ok (.aload_n 0, 1) := by decide +kernel
theorem dX6_ifDays_92 : decode cX6_ifDays 92 = .ok (.getfield 16, 3) := by decide +kernel
theorem dX6_ifDays_95 : decode cX6_ifDays 95 = .ok (.aload_n 0, 1) := by decide +kernel
theorem dX6_ifDays_96 : decode cX6_ifDays 96 = .ok (.getfield 16, 3) := by decide +kernel
theorem dX6_ifDays_99 : decode cX6_ifDays 99 = .ok (.getfield 208, 3) := by decide +kernel
theorem dX6_ifDays_102 : decode cX6_ifDays 102 = .ok (.invokevirtual 263, 3) := by decide +kernel
theorem dX6_ifDays_105 : decode cX6_ifDays 105 = .ok (.ireturn, 1) := by decide +kernel
theorem dX6_ifDays_106 : decode cX6_ifDays 106 = .ok (.aload_n 0, 1) := by decide +kernel
theorem dX6_ifDays_107 : decode cX6_ifDays 107 = .ok (.getfield 16, 3) := by decide +kernel
theorem dX6_ifDays_110 : decode cX6_ifDays 110 = .ok (.aload_n 0, 1) := by decide +kernel
theorem dX6_ifDays_111 : decode cX6_ifDays 111 = .ok (.getfield 16, 3) := by decide +kernel
theorem dX6_ifDays_114 : decode cX6_ifDays 114 = .ok (.getfield 211, 3) := by decide +kernel
theorem dX6_ifDays_117 : decode cX6_ifDays 117 = .ok (.invokevirtual 263, 3) := by decide +kernel
theorem dX6_ifDays_120 : decode cX6_ifDays 120 = .ok (.ireturn, 1) := by decide +kernel
theorem dX6_ifDays_121 : decode cX6_ifDays 121 = .ok (.aload_n 0, 1) := by decide +kernel
theorem dX6_ifDays_122 : decode cX6_ifDays 122 = .ok (.getfield 16, 3) := by decide +kernel
theorem dX6_ifDays_125 : decode cX6_ifDays 125 = .ok (.getfield 74, 3) := by decide +kernel
theorem dX6_ifDays_128 : decode cX6_ifDays 128 = .ok (.ireturn, 1) := by decide +kernel
theorem dX6_bestPlace_0 : decode cX6_bestPlace 0 = .ok (.iload_n 1, 1) := by decide +kernel
theorem dX6_bestPlace_1 : decode cX6_bestPlace 1 = .ok (.invokestatic 97, 3) := by decide +kernel
theorem dX6_bestPlace_4 : decode cX6_bestPlace 4 = .ok (.ifCond .ne 5, 3) := by decide +kernel
theorem dX6_bestPlace_7 : decode cX6_bestPlace 7 = .ok (.iconst (-1), 1) := by decide +kernel
theorem dX6_bestPlace_8 : decode cX6_bestPlace 8 = .ok (.ireturn, 1) := by decide +kernel
theorem dX6_bestPlace_9 : decode cX6_bestPlace 9 = .ok (.bipush (-4), 2) := by decide +kernel
theorem dX6_bestPlace_11 : decode cX6_bestPlace 11 = .ok (.istore_n 2, 1) := by decide +kernel
theorem dX6_bestPlace_12 : decode cX6_bestPlace 12 = .ok (.iconst 5, 1) := by decide +kernel
theorem dX6_bestPlace_13 : decode cX6_bestPlace 13 = .ok (.istore_n 3, 1) := by decide +kernel
theorem dX6_bestPlace_14 : decode cX6_bestPlace 14 = .ok (.iconst 0, 1) := by decide +kernel
theorem dX6_bestPlace_15 : decode cX6_bestPlace 15 = .ok (.istore 4, 2) := by decide +kernel
theorem dX6_bestPlace_17 : decode cX6_bestPlace 17 = .ok (.iload 4, 2) := by decide +kernel
theorem dX6_bestPlace_19 : decode cX6_bestPlace 19 = .ok (.bipush 28, 2) := by decide +kernel
theorem dX6_bestPlace_21 : decode cX6_bestPlace 21 = .ok (.if_icmp .ge 45, 3) := by decide +kernel
theorem dX6_bestPlace_24 : decode cX6_bestPlace 24 = .ok (.aload_n 0, 1) := by decide +kernel
theorem dX6_bestPlace_25 : decode cX6_bestPlace 25 = .ok (.getfield 10, 3) := by decide +kernel
theorem dX6_bestPlace_28 : decode cX6_bestPlace 28 = .ok (.iload_n 1, 1) := by decide +kernel
theorem dX6_bestPlace_29 : decode cX6_bestPlace 29 = .ok (.iload 4, 2) := by decide +kernel
theorem dX6_bestPlace_31 : decode cX6_bestPlace 31 = .ok (.invokevirtual 235, 3) := by decide +kernel
theorem dX6_bestPlace_34 : decode cX6_bestPlace 34 = .ok (.ifCond .ne 26, 3) := by decide +kernel
theorem dX6_bestPlace_37 : decode cX6_bestPlace 37 = .ok (.aload_n 0, 1) := by decide +kernel
theorem dX6_bestPlace_38 : decode cX6_bestPlace 38 = .ok (.getfield 10, 3) := by decide +kernel
theorem dX6_bestPlace_41 : decode cX6_bestPlace 41 = .ok (.iload 4, 2) := by decide +kernel
theorem dX6_bestPlace_43 : decode cX6_bestPlace 43 = .ok (.invokevirtual 267, 3) := by decide +kernel
theorem dX6_bestPlace_46 : decode cX6_bestPlace 46 = .ok (.istore 5, 2) := by decide +kernel
theorem dX6_bestPlace_48 : decode cX6_bestPlace 48 = .ok (.iload 5, 2) := by decide +kernel
theorem dX6_bestPlace_50 : decode cX6_bestPlace 50 = .ok (.iload_n 3, 1) := by decide +kernel
theorem dX6_bestPlace_51 : decode cX6_bestPlace 51 = .ok (.if_icmp .ge 9, 3) := by decide +kernel
theorem dX6_bestPlace_54 : decode cX6_bestPlace 54 = .ok (.iload 5, 2) := by decide +kernel
theorem dX6_bestPlace_56 : decode cX6_bestPlace 56 = .ok (.istore_n 3, 1) := by decide +kernel
theorem dX6_bestPlace_57 : decode cX6_bestPlace 57 = .ok (.iload 4, 2) := by decide +kernel
theorem dX6_bestPlace_59 : decode cX6_bestPlace 59 = .ok (.istore_n 2, 1) := by decide +kernel
theorem dX6_bestPlace_60 : decode cX6_bestPlace 60 = .ok (.iinc 4 1, 3) := by decide +kernel
theorem dX6_bestPlace_63 : decode cX6_bestPlace 63 = .ok (.goto (-46), 3) := by decide +kernel
theorem dX6_bestPlace_66 : decode cX6_bestPlace 66 = .ok (.iload_n 2, 1) := by decide +kernel
theorem dX6_bestPlace_67 : decode cX6_bestPlace 67 = .ok (.ireturn, 1) := by decide +kernel
theorem dX6_undo_0 : decode cX6_undo 0 = .ok (.aload_n 0, 1) := by decide +kernel
theorem dX6_undo_1 : decode cX6_undo 1 = .ok (.getfield 25, 3) := by decide +kernel
theorem dX6_undo_4 : decode cX6_undo 4 = .ok (.getfield 248, 3) := by decide +kernel
theorem dX6_undo_7 : decode cX6_undo 7 = .ok (.ifCond .ne 6, 3) := by decide +kernel
theorem dX6_undo_10 : decode cX6_undo 10 = .ok (.bipush (-2), 2) := by decide +kernel
theorem dX6_undo_12 : decode cX6_undo 12 = .ok (.ireturn, 1) := by decide +kernel
theorem dX6_undo_13 : decode cX6_undo 13 = .ok (.aload_n 0, 1) := by decide +kernel
theorem dX6_undo_14 : decode cX6_undo 14 = .ok (.getfield 25, 3) := by decide +kernel
theorem dX6_undo_17 : decode cX6_undo 17 = .ok (.aload_n 0, 1) := by decide +kernel
theorem dX6_undo_18 : decode cX6_undo 18 = .ok (.getfield 10, 3) := by decide +kernel
theorem dX6_undo_21 : decode cX6_undo 21 = .ok (.invokevirtual 270, 3) := by decide +kernel
theorem dX6_undo_24 : decode cX6_undo 24 = .ok (.aload_n 0, 1) := by decide +kernel
theorem dX6_undo_25 : decode cX6_undo 25 = .ok (.getfield 25, 3) := by decide +kernel
theorem dX6_undo_28 : decode cX6_undo 28 = .ok (.getfield 248, 3) := by decide +kernel
theorem dX6_undo_31 : decode cX6_undo 31 = .ok (.ireturn, 1) := by decide +kernel
theorem dX6_save_0 : decode cX6_save 0 = .ok (.aload_n 0, 1) := by decide +kernel
theorem dX6_save_1 : decode cX6_save 1 = .ok (.getfield 19, 3) := by decide +kernel
theorem dX6_save_4 : decode cX6_save 4 = .ok (.aload_n 0, 1) := by decide +kernel
theorem dX6_save_5 : decode cX6_save 5 = .ok (.getfield 10, 3) := by decide +kernel
theorem dX6_save_8 : decode cX6_save 8 = .ok (.invokevirtual 260, 3) := by decide +kernel
theorem dX6_save_11 : decode cX6_save 11 = .ok (.aload_n 0, 1) := by decide +kernel
theorem dX6_save_12 : decode cX6_save 12 = .ok (.iconst 1, 1) := by decide +kernel
theorem dX6_save_13 : decode cX6_save 13 = .ok (.putfield 273, 3) := by decide +kernel
theorem dX6_save_16 : decode cX6_save 16 = .ok (.aload_n 0, 1) := by decide +kernel
theorem dX6_save_17 : decode cX6_save 17 = .ok (.getfield 10, 3) := by decide +kernel
theorem dX6_save_20 : decode cX6_save 20 = .ok (.invokevirtual 189, 3) := by decide +kernel
theorem dX6_save_23 : decode cX6_save 23 = .ok (.invokestatic 89, 3) := by decide +kernel
theorem dX6_save_26 : decode cX6_save 26 = .ok (.ireturn, 1) := by decide +kernel
theorem dX6_restore_0 : decode cX6_restore 0 = .ok (.aload_n 0, 1) := by decide +kernel
theorem dX6_restore_1 : decode cX6_restore 1 = .ok (.getfield 273, 3) := by decide +kernel
theorem dX6_restore_4 : decode cX6_restore 4 = .ok (.ifCond .ne 6, 3) := by decide +kernel
theorem dX6_restore_7 : decode cX6_restore 7 = .ok (.bipush (-2), 2) := by decide +kernel
theorem dX6_restore_9 : decode cX6_restore 9 = .ok (.ireturn, 1) := by decide +kernel
theorem dX6_restore_10 : decode cX6_restore 10 = .ok (.aload_n 0, 1) := by decide +kernel
theorem dX6_restore_11 : decode cX6_restore 11 = .ok (.getfield 25, 3) := by decide +kernel
theorem dX6_restore_14 : decode cX6_restore 14 = .ok (.aload_n 0, 1) := by decide +kernel
theorem dX6_restore_15 : decode cX6_restore 15 = .ok (.getfield 10, 3) := by decide +kernel
theorem dX6_restore_18 : decode cX6_restore 18 = .ok (.invokevirtual 62, 3) := by decide +kernel
theorem dX6_restore_21 : decode cX6_restore 21 = .ok (.aload_n 0, 1) := by decide +kernel
theorem dX6_restore_22 : decode cX6_restore 22 = .ok (.getfield 10, 3) := by decide +kernel
theorem dX6_restore_25 : decode cX6_restore 25 = .ok (.aload_n 0, 1) := by decide +kernel
theorem dX6_restore_26 : decode cX6_restore 26 = .ok (.getfield 19, 3) := by decide +kernel
theorem dX6_restore_29 : decode cX6_restore 29 = .ok (.invokevirtual 260, 3) := by decide +kernel
theorem dX6_restore_32 : decode cX6_restore 32 = .ok (.aload_n 0, 1) := by decide +kernel
theorem dX6_restore_33 : decode cX6_restore 33 = .ok (.getfield 10, 3) := by decide +kernel
theorem dX6_restore_36 : decode cX6_restore 36 = .ok (.invokevirtual 189, 3) := by decide +kernel
theorem dX6_restore_39 : decode cX6_restore 39 = .ok (.invokestatic 89, 3) := by decide +kernel
theorem dX6_restore_42 : decode cX6_restore 42 = .ok (.ireturn, 1) := by decide +kernel
theorem dX6_keepStop_0 : decode cX6_keepStop 0 = .ok (.aload_n 0, 1) := by decide +kernel
theorem dX6_keepStop_1 : decode cX6_keepStop 1 = .ok (.iconst 1, 1) := by decide +kernel
theorem dX6_keepStop_2 : decode cX6_keepStop 2 = .ok (.putfield 145, 3) := by decide +kernel
theorem dX6_keepStop_5 : decode cX6_keepStop 5 = .ok (.aload_n 0, 1) := by decide +kernel
theorem dX6_keepStop_6 : decode cX6_keepStop 6 = .ok (.iload_n 1, 1) := by decide +kernel
theorem dX6_keepStop_7 : decode cX6_keepStop 7 = .ok (.putfield 162, 3) := by decide +kernel
theorem dX6_keepStop_10 : decode cX6_keepStop 10 = .ok (.aload_n 0, 1) := by decide +kernel
theorem dX6_keepStop_11 : decode cX6_keepStop 11 = .ok (.iload_n 2, 1) := by decide +kernel
theorem dX6_keepStop_12 : decode cX6_keepStop 12 = .ok (.putfield 165, 3) := by decide +kernel
theorem dX6_keepStop_15 : decode cX6_keepStop 15 = .ok (.aload_n 0, 1) := by decide +kernel
theorem dX6_keepStop_16 : decode cX6_keepStop 16 = .ok (.aload_n 0, 1) := by decide +kernel
theorem dX6_keepStop_17 : decode cX6_keepStop 17 = .ok (.getfield 48, 3) := by decide +kernel
theorem dX6_keepStop_20 : decode cX6_keepStop 20 = .ok (.getfield 276, 3) := by decide +kernel
theorem dX6_keepStop_23 : decode cX6_keepStop 23 = .ok (.putfield 168, 3) := by decide +kernel
theorem dX6_keepStop_26 : decode cX6_keepStop 26 = .ok (.return_, 1) := by decide +kernel
theorem dX6_carryOutOrder_0 : decode cX6_carryOutOrder 0 = .ok (.aload_n 0, 1) := by decide +kernel
theorem dX6_carryOutOrder_1 : decode cX6_carryOutOrder 1 = .ok (.getfield 48, 3) := by decide +kernel
theorem dX6_carryOutOrder_4 : decode cX6_carryOutOrder 4 = .ok (.getfield 279, 3) := by decide +kernel
theorem dX6_carryOutOrder_7 : decode cX6_carryOutOrder 7 = .ok (.lookupswitch 159 #[(99, 143), (104, 41), (116, 66), (119, 91)], 41) := by decide +kernel
theorem dX6_carryOutOrder_48 : decode cX6_carryOutOrder 48 = .ok (.aload_n 0, 1) := by decide +kernel
theorem dX6_carryOutOrder_49 : decode cX6_carryOutOrder 49 = .ok (.getfield 10, 3) := by decide +kernel
theorem dX6_carryOutOrder_52 : decode cX6_carryOutOrder 52 = .ok (.aload_n 0, 1) := by decide +kernel
theorem dX6_carryOutOrder_53 : decode cX6_carryOutOrder 53 = .ok (.getfield 48, 3) := by decide +kernel
theorem dX6_carryOutOrder_56 : decode cX6_carryOutOrder 56 = .ok (.getfield 283, 3) := by decide +kernel
theorem dX6_carryOutOrder_59 : decode cX6_carryOutOrder 59 = .ok (.aload_n 0, 1) := by decide +kernel
theorem dX6_carryOutOrder_60 : decode cX6_carryOutOrder 60 = .ok (.getfield 48, 3) := by decide +kernel
theorem dX6_carryOutOrder_63 : decode cX6_carryOutOrder 63 = .ok (.getfield 286, 3) := by decide +kernel
theorem dX6_carryOutOrder_66 : decode cX6_carryOutOrder 66 = .ok (.invokevirtual 114, 3) := by decide +kernel
theorem dX6_carryOutOrder_69 : decode cX6_carryOutOrder 69 = .ok (.invokestatic 289, 3) := by decide +kernel
theorem dX6_carryOutOrder_72 : decode cX6_carryOutOrder 72 = .ok (.ireturn, 1) := by decide +kernel
theorem dX6_carryOutOrder_73 : decode cX6_carryOutOrder 73 = .ok (.aload_n 0, 1) := by decide +kernel
theorem dX6_carryOutOrder_74 : decode cX6_carryOutOrder 74 = .ok (.getfield 10, 3) := by decide +kernel
theorem dX6_carryOutOrder_77 : decode cX6_carryOutOrder 77 = .ok (.aload_n 0, 1) := by decide +kernel
theorem dX6_carryOutOrder_78 : decode cX6_carryOutOrder 78 = .ok (.getfield 48, 3) := by decide +kernel
theorem dX6_carryOutOrder_81 : decode cX6_carryOutOrder 81 = .ok (.getfield 283, 3) := by decide +kernel
theorem dX6_carryOutOrder_84 : decode cX6_carryOutOrder 84 = .ok (.aload_n 0, 1) := by decide +kernel
theorem dX6_carryOutOrder_85 : decode cX6_carryOutOrder 85 = .ok (.getfield 48, 3) := by decide +kernel
theorem dX6_carryOutOrder_88 : decode cX6_carryOutOrder 88 = .ok (.getfield 286, 3) := by decide +kernel
theorem dX6_carryOutOrder_91 : decode cX6_carryOutOrder 91 = .ok (.invokevirtual 118, 3) := by decide +kernel
theorem dX6_carryOutOrder_94 : decode cX6_carryOutOrder 94 = .ok (.invokestatic 289, 3) := by decide +kernel
theorem dX6_carryOutOrder_97 : decode cX6_carryOutOrder 97 = .ok (.ireturn, 1) := by decide +kernel
theorem dX6_carryOutOrder_98 : decode cX6_carryOutOrder 98 = .ok (.aload_n 0, 1) := by decide +kernel
theorem dX6_carryOutOrder_99 : decode cX6_carryOutOrder 99 = .ok (.getfield 10, 3) := by decide +kernel
theorem dX6_carryOutOrder_102 : decode cX6_carryOutOrder 102 = .ok (.aload_n 0, 1) := by decide +kernel
theorem dX6_carryOutOrder_103 : decode cX6_carryOutOrder 103 = .ok (.getfield 48, 3) := by decide +kernel
theorem dX6_carryOutOrder_106 : decode cX6_carryOutOrder 106 = .ok (.getfield 283, 3) := by decide +kernel
theorem dX6_carryOutOrder_109 : decode cX6_carryOutOrder 109 = .ok (.aload_n 0, 1) := by decide +kernel
theorem dX6_carryOutOrder_110 : decode cX6_carryOutOrder 110 = .ok (.getfield 48, 3) := by decide +kernel
theorem dX6_carryOutOrder_113 : decode cX6_carryOutOrder 113 = .ok (.getfield 286, 3) := by decide +kernel
theorem dX6_carryOutOrder_116 : decode cX6_carryOutOrder 116 = .ok (.invokevirtual 121, 3) := by decide +kernel
theorem dX6_carryOutOrder_119 : decode cX6_carryOutOrder 119 = .ok (.ifCond .ne 6, 3) := by decide +kernel
theorem dX6_carryOutOrder_122 : decode cX6_carryOutOrder 122 = .ok (.bipush (-2), 2) := by decide +kernel
theorem dX6_carryOutOrder_124 : decode cX6_carryOutOrder 124 = .ok (.ireturn, 1) := by decide +kernel
theorem dX6_carryOutOrder_125 : decode cX6_carryOutOrder 125 = .ok (.aload_n 0, 1) := by decide +kernel
theorem dX6_carryOutOrder_126 : decode cX6_carryOutOrder 126 = .ok (.getfield 10, 3) := by decide +kernel
theorem dX6_carryOutOrder_129 : decode cX6_carryOutOrder 129 = .ok (.aload_n 0, 1) := by decide +kernel
theorem dX6_carryOutOrder_130 : decode cX6_carryOutOrder 130 = .ok (.getfield 48, 3) := by decide +kernel
theorem dX6_carryOutOrder_133 : decode cX6_carryOutOrder 133 = .ok (.getfield 283, 3) := by decide +kernel
theorem dX6_carryOutOrder_136 : decode cX6_carryOutOrder 136 = .ok (.aload_n 0, 1) := by decide +kernel
theorem dX6_carryOutOrder_137 : decode cX6_carryOutOrder 137 = .ok (.getfield 48, 3) := by decide +kernel
theorem dX6_carryOutOrder_140 : decode cX6_carryOutOrder 140 = .ok (.getfield 286, 3) := by decide +kernel
theorem dX6_carryOutOrder_143 : decode cX6_carryOutOrder 143 = .ok (.invokevirtual 125, 3) := by decide +kernel
theorem dX6_carryOutOrder_146 : decode cX6_carryOutOrder 146 = .ok (.invokestatic 289, 3) := by decide +kernel
theorem dX6_carryOutOrder_149 : decode cX6_carryOutOrder 149 = .ok (.ireturn, 1) := by decide +kernel
theorem dX6_carryOutOrder_150 : decode cX6_carryOutOrder 150 = .ok (.aload_n 0, 1) := by decide +kernel
theorem dX6_carryOutOrder_151 : decode cX6_carryOutOrder 151 = .ok (.getfield 10, 3) := by decide +kernel
theorem dX6_carryOutOrder_154 : decode cX6_carryOutOrder 154 = .ok (.aload_n 0, 1) := by decide +kernel
theorem dX6_carryOutOrder_155 : decode cX6_carryOutOrder 155 = .ok (.getfield 48, 3) := by decide +kernel
theorem dX6_carryOutOrder_158 : decode cX6_carryOutOrder 158 = .ok (.getfield 286, 3) := by decide +kernel
theorem dX6_carryOutOrder_161 : decode cX6_carryOutOrder 161 = .ok (.invokevirtual 81, 3) := by decide +kernel
theorem dX6_carryOutOrder_164 : decode cX6_carryOutOrder 164 = .ok (.iconst 0, 1) := by decide +kernel
theorem dX6_carryOutOrder_165 : decode cX6_carryOutOrder 165 = .ok (.ireturn, 1) := by decide +kernel
theorem dX6_carryOutOrder_166 : decode cX6_carryOutOrder 166 = .ok (.aload_n 0, 1) := by decide +kernel
theorem dX6_carryOutOrder_167 : decode cX6_carryOutOrder 167 = .ok (.getfield 10, 3) := by decide +kernel
theorem dX6_carryOutOrder_170 : decode cX6_carryOutOrder 170 = .ok (.invokevirtual 128, 3) := by decide +kernel
theorem dX6_carryOutOrder_173 : decode cX6_carryOutOrder 173 = .ok (.iconst 0, 1) := by decide +kernel
theorem dX6_carryOutOrder_174 : decode cX6_carryOutOrder 174 = .ok (.ireturn, 1) := by decide +kernel
theorem dX6_causeIn_0 : decode cX6_causeIn 0 = .ok (.iload_n 0, 1) := by decide +kernel
theorem dX6_causeIn_1 : decode cX6_causeIn 1 = .ok (.bipush 10, 2) := by decide +kernel
theorem dX6_causeIn_3 : decode cX6_causeIn 3 = .ok (.if_icmp .lt 7, 3) := by decide +kernel
theorem dX6_causeIn_6 : decode cX6_causeIn 6 = .ok (.iconst 0, 1) := by decide +kernel
theorem dX6_causeIn_7 : decode cX6_causeIn 7 = .ok (.goto 4, 3) := by decide +kernel
theorem dX6_causeIn_10 : decode cX6_causeIn 10 = .ok (.iload_n 0, 1) := by decide +kernel
theorem dX6_causeIn_11 : decode cX6_causeIn 11 = .ok (.ireturn, 1) := by decide +kernel
theorem dX6_isWithin_0 : decode cX6_isWithin 0 = .ok (.iload_n 0, 1) := by decide +kernel
theorem dX6_isWithin_1 : decode cX6_isWithin 1 = .ok (.iload_n 1, 1) := by decide +kernel
theorem dX6_isWithin_2 : decode cX6_isWithin 2 = .ok (.if_icmp .lt 12, 3) := by decide +kernel
theorem dX6_isWithin_5 : decode cX6_isWithin 5 = .ok (.iload_n 0, 1) := by decide +kernel
theorem dX6_isWithin_6 : decode cX6_isWithin 6 = .ok (.iload_n 2, 1) := by decide +kernel
theorem dX6_isWithin_7 : decode cX6_isWithin 7 = .ok (.if_icmp .gt 7, 3) := by decide +kernel
theorem dX6_isWithin_10 : decode cX6_isWithin 10 = .ok (.iconst 1, 1) := by decide +kernel
theorem dX6_isWithin_11 : decode cX6_isWithin 11 = .ok (.goto 4, 3) := by decide +kernel
theorem dX6_isWithin_14 : decode cX6_isWithin 14 = .ok (.iconst 0, 1) := by decide +kernel
theorem dX6_isWithin_15 : decode cX6_isWithin 15 = .ok (.ireturn, 1) := by decide +kernel
theorem dX6_isRoof_0 : decode cX6_isRoof 0 = .ok (.iload_n 0, 1) := by decide +kernel
theorem dX6_isRoof_1 : decode cX6_isRoof 1 = .ok (.iconst 0, 1) := by decide +kernel
theorem dX6_isRoof_2 : decode cX6_isRoof 2 = .ok (.bipush 15, 2) := by decide +kernel
theorem dX6_isRoof_4 : decode cX6_isRoof 4 = .ok (.invokestatic 58, 3) := by decide +kernel
theorem dX6_isRoof_7 : decode cX6_isRoof 7 = .ok (.ireturn, 1) := by decide +kernel
theorem dX6_isOwner_0 : decode cX6_isOwner 0 = .ok (.iload_n 0, 1) := by decide +kernel
theorem dX6_isOwner_1 : decode cX6_isOwner 1 = .ok (.iconst 0, 1) := by decide +kernel
theorem dX6_isOwner_2 : decode cX6_isOwner 2 = .ok (.iconst 3, 1) := by decide +kernel
theorem dX6_isOwner_3 : decode cX6_isOwner 3 = .ok (.invokestatic 58, 3) := by decide +kernel
theorem dX6_isOwner_6 : decode cX6_isOwner 6 = .ok (.ireturn, 1) := by decide +kernel
theorem dX6_bitOf_0 : decode cX6_bitOf 0 = .ok (.iload_n 0, 1) := by decide +kernel
theorem dX6_bitOf_1 : decode cX6_bitOf 1 = .ok (.iload_n 1, 1) := by decide +kernel
theorem dX6_bitOf_2 : decode cX6_bitOf 2 = .ok (.ishr, 1) := by decide +kernel
theorem dX6_bitOf_3 : decode cX6_bitOf 3 = .ok (.iconst 1, 1) := by decide +kernel
theorem dX6_bitOf_4 : decode cX6_bitOf 4 = .ok (.iand, 1) := by decide +kernel
theorem dX6_bitOf_5 : decode cX6_bitOf 5 = .ok (.ireturn, 1) := by decide +kernel
theorem dX6_isIn_0 : decode cX6_isIn 0 = .ok (.iload_n 0, 1) := by decide +kernel
theorem dX6_isIn_1 : decode cX6_isIn 1 = .ok (.iload_n 1, 1) := by decide +kernel
theorem dX6_isIn_2 : decode cX6_isIn 2 = .ok (.ishr, 1) := by decide +kernel
theorem dX6_isIn_3 : decode cX6_isIn 3 = .ok (.iconst 1, 1) := by decide +kernel
theorem dX6_isIn_4 : decode cX6_isIn 4 = .ok (.iand, 1) := by decide +kernel
theorem dX6_isIn_5 : decode cX6_isIn 5 = .ok (.iconst 1, 1) := by decide +kernel
theorem dX6_isIn_6 : decode cX6_isIn 6 = .ok (.if_icmp .ne 7, 3) := by decide +kernel
theorem dX6_isIn_9 : decode cX6_isIn 9 = .ok (.iconst 1, 1) := by decide +kernel
theorem dX6_isIn_10 : decode cX6_isIn 10 = .ok (.goto 4, 3) := by decide +kernel
theorem dX6_isIn_13 : decode cX6_isIn 13 = .ok (.iconst 0, 1) := by decide +kernel
theorem dX6_isIn_14 : decode cX6_isIn 14 = .ok (.ireturn, 1) := by decide +kernel
theorem dJ6_bitCount_0f7a4_0 : decode cJ6_bitCount_0f7a4 0 = .ok (.iload_n 0, 1) := by decide +kernel
theorem dJ6_bitCount_0f7a4_1 : decode cJ6_bitCount_0f7a4 1 = .ok (.iload_n 0, 1) := by decide +kernel
theorem dJ6_bitCount_0f7a4_2 : decode cJ6_bitCount_0f7a4 2 = .ok (.iconst 1, 1) := by decide +kernel
theorem dJ6_bitCount_0f7a4_3 : decode cJ6_bitCount_0f7a4 3 = .ok (.iushr, 1) := by decide +kernel
theorem dJ6_bitCount_0f7a4_4 : decode cJ6_bitCount_0f7a4 4 = .ok (.ldc_w 265, 3) := by decide +kernel
theorem dJ6_bitCount_0f7a4_7 : decode cJ6_bitCount_0f7a4 7 = .ok (.iand, 1) := by decide +kernel
theorem dJ6_bitCount_0f7a4_8 : decode cJ6_bitCount_0f7a4 8 = .ok (.isub, 1) := by decide +kernel
theorem dJ6_bitCount_0f7a4_9 : decode cJ6_bitCount_0f7a4 9 = .ok (.istore_n 0, 1) := by decide +kernel
theorem dJ6_bitCount_0f7a4_10 : decode cJ6_bitCount_0f7a4 10 = .ok (.iload_n 0, 1) := by decide +kernel
theorem dJ6_bitCount_0f7a4_11 : decode cJ6_bitCount_0f7a4 11 = .ok (.ldc_w 266, 3) := by decide +kernel
theorem dJ6_bitCount_0f7a4_14 : decode cJ6_bitCount_0f7a4 14 = .ok (.iand, 1) := by decide +kernel
theorem dJ6_bitCount_0f7a4_15 : decode cJ6_bitCount_0f7a4 15 = .ok (.iload_n 0, 1) := by decide +kernel
theorem dJ6_bitCount_0f7a4_16 : decode cJ6_bitCount_0f7a4 16 = .ok (.iconst 2, 1) := by decide +kernel
theorem dJ6_bitCount_0f7a4_17 : decode cJ6_bitCount_0f7a4 17 = .ok (.iushr, 1) := by decide +kernel
theorem dJ6_bitCount_0f7a4_18 : decode cJ6_bitCount_0f7a4 18 = .ok (.ldc_w 266, 3) := by decide +kernel
theorem dJ6_bitCount_0f7a4_21 : decode cJ6_bitCount_0f7a4 21 = .ok (.iand, 1) := by decide +kernel
theorem dJ6_bitCount_0f7a4_22 : decode cJ6_bitCount_0f7a4 22 = .ok (.iadd, 1) := by decide +kernel
theorem dJ6_bitCount_0f7a4_23 : decode cJ6_bitCount_0f7a4 23 = .ok (.istore_n 0, 1) := by decide +kernel
theorem dJ6_bitCount_0f7a4_24 : decode cJ6_bitCount_0f7a4 24 = .ok (.iload_n 0, 1) := by decide +kernel
theorem dJ6_bitCount_0f7a4_25 : decode cJ6_bitCount_0f7a4 25 = .ok (.iload_n 0, 1) := by decide +kernel
theorem dJ6_bitCount_0f7a4_26 : decode cJ6_bitCount_0f7a4 26 = .ok (.iconst 4, 1) := by decide +kernel
theorem dJ6_bitCount_0f7a4_27 : decode cJ6_bitCount_0f7a4 27 = .ok (.iushr, 1) := by decide +kernel
theorem dJ6_bitCount_0f7a4_28 : decode cJ6_bitCount_0f7a4 28 = .ok (.iadd, 1) := by decide +kernel
theorem dJ6_bitCount_0f7a4_29 : decode cJ6_bitCount_0f7a4 29 = .ok (.ldc_w 267, 3) := by decide +kernel
theorem dJ6_bitCount_0f7a4_32 : decode cJ6_bitCount_0f7a4 32 = .ok (.iand, 1) := by decide +kernel
theorem dJ6_bitCount_0f7a4_33 : decode cJ6_bitCount_0f7a4 33 = .ok (.istore_n 0, 1) := by decide +kernel
theorem dJ6_bitCount_0f7a4_34 : decode cJ6_bitCount_0f7a4 34 = .ok (.iload_n 0, 1) := by decide +kernel
theorem dJ6_bitCount_0f7a4_35 : decode cJ6_bitCount_0f7a4 35 = .ok (.iload_n 0, 1) := by decide +kernel
theorem dJ6_bitCount_0f7a4_36 : decode cJ6_bitCount_0f7a4 36 = .ok (.bipush 8, 2) := by decide +kernel
theorem dJ6_bitCount_0f7a4_38 : decode cJ6_bitCount_0f7a4 38 = .ok (.iushr, 1) := by decide +kernel
theorem dJ6_bitCount_0f7a4_39 : decode cJ6_bitCount_0f7a4 39 = .ok (.iadd, 1) := by decide +kernel
theorem dJ6_bitCount_0f7a4_40 : decode cJ6_bitCount_0f7a4 40 = .ok (.istore_n 0, 1) := by decide +kernel
theorem dJ6_bitCount_0f7a4_41 : decode cJ6_bitCount_0f7a4 41 = .ok (.iload_n 0, 1) := by decide +kernel
theorem dJ6_bitCount_0f7a4_42 : decode cJ6_bitCount_0f7a4 42 = .ok (.iload_n 0, 1) := by decide +kernel
theorem dJ6_bitCount_0f7a4_43 : decode cJ6_bitCount_0f7a4 43 = .ok (.bipush 16, 2) := by decide +kernel
theorem dJ6_bitCount_0f7a4_45 : decode cJ6_bitCount_0f7a4 45 = .ok (.iushr, 1) := by decide +kernel
theorem dJ6_bitCount_0f7a4_46 : decode cJ6_bitCount_0f7a4 46 = .ok (.iadd, 1) := by decide +kernel
theorem dJ6_bitCount_0f7a4_47 : decode cJ6_bitCount_0f7a4 47 = .ok (.istore_n 0, 1) := by decide +kernel
theorem dJ6_bitCount_0f7a4_48 : decode cJ6_bitCount_0f7a4 48 = .ok (.iload_n 0, 1) := by decide +kernel
theorem dJ6_bitCount_0f7a4_49 : decode cJ6_bitCount_0f7a4 49 = .ok (.bipush 63, 2) := by decide +kernel
theorem dJ6_bitCount_0f7a4_51 : decode cJ6_bitCount_0f7a4 51 = .ok (.iand, 1) := by decide +kernel
theorem dJ6_bitCount_0f7a4_52 : decode cJ6_bitCount_0f7a4 52 = .ok (.ireturn, 1) := by decide +kernel
theorem dJ7_fill_53178_0 : decode cJ7_fill_53178 0 = .ok (.iconst 0, 1) := by decide +kernel
theorem dJ7_fill_53178_1 : decode cJ7_fill_53178 1 = .ok (.istore_n 2, 1) := by decide +kernel
theorem dJ7_fill_53178_2 : decode cJ7_fill_53178 2 = .ok (.aload_n 0, 1) := by decide +kernel
theorem dJ7_fill_53178_3 : decode cJ7_fill_53178 3 = .ok (.arraylength, 1) := by decide +kernel
theorem dJ7_fill_53178_4 : decode cJ7_fill_53178 4 = .ok (.istore_n 3, 1) := by decide +kernel
theorem dJ7_fill_53178_5 : decode cJ7_fill_53178 5 = .ok (.iload_n 2, 1) := by decide +kernel
theorem dJ7_fill_53178_6 : decode cJ7_fill_53178 6 = .ok (.iload_n 3, 1) := by decide +kernel
theorem dJ7_fill_53178_7 : decode cJ7_fill_53178 7 = .ok (.if_icmp .ge 13, 3) := by decide +kernel
theorem dJ7_fill_53178_10 : decode cJ7_fill_53178 10 = .ok (.aload_n 0, 1) := by decide +kernel
theorem dJ7_fill_53178_11 : decode cJ7_fill_53178 11 = .ok (.iload_n 2, 1) := by decide +kernel
theorem dJ7_fill_53178_12 : decode cJ7_fill_53178 12 = .ok (.iload_n 1, 1) := by decide +kernel
theorem dJ7_fill_53178_13 : decode cJ7_fill_53178 13 = .ok (.iastore, 1) := by decide +kernel
theorem dJ7_fill_53178_14 : decode cJ7_fill_53178 14 = .ok (.iinc 2 1, 3) := by decide +kernel
theorem dJ7_fill_53178_17 : decode cJ7_fill_53178 17 = .ok (.goto (-12), 3) := by decide +kernel
theorem dJ7_fill_53178_20 : decode cJ7_fill_53178 20 = .ok (.return_, 1) := by decide +kernel
theorem dJ9_max_7cf53_0 : decode cJ9_max_7cf53 0 = .ok (.iload_n 0, 1) := by decide +kernel
theorem dJ9_max_7cf53_1 : decode cJ9_max_7cf53 1 = .ok (.iload_n 1, 1) := by decide +kernel
theorem dJ9_max_7cf53_2 : decode cJ9_max_7cf53 2 = .ok (.if_icmp .lt 7, 3) := by decide +kernel
theorem dJ9_max_7cf53_5 : decode cJ9_max_7cf53 5 = .ok (.iload_n 0, 1) := by decide +kernel
theorem dJ9_max_7cf53_6 : decode cJ9_max_7cf53 6 = .ok (.goto 4, 3) := by decide +kernel
theorem dJ9_max_7cf53_9 : decode cJ9_max_7cf53 9 = .ok (.iload_n 1, 1) := by decide +kernel
theorem dJ9_max_7cf53_10 : decode cJ9_max_7cf53 10 = .ok (.ireturn, 1) := by decide +kernel
theorem dJ9_min_7cf53_0 : decode cJ9_min_7cf53 0 = .ok (.iload_n 0, 1) := by decide +kernel
theorem dJ9_min_7cf53_1 : decode cJ9_min_7cf53 1 = .ok (.iload_n 1, 1) := by decide +kernel
theorem dJ9_min_7cf53_2 : decode cJ9_min_7cf53 2 = .ok (.if_icmp .gt 7, 3) := by decide +kernel
theorem dJ9_min_7cf53_5 : decode cJ9_min_7cf53 5 = .ok (.iload_n 0, 1) := by decide +kernel
theorem dJ9_min_7cf53_6 : decode cJ9_min_7cf53 6 = .ok (.goto 4, 3) := by decide +kernel
theorem dJ9_min_7cf53_9 : decode cJ9_min_7cf53 9 = .ok (.iload_n 1, 1) := by decide +kernel
theorem dJ9_min_7cf53_10 : decode cJ9_min_7cf53 10 = .ok (.ireturn, 1) := by decide +kernel
