theorem dX0_init_0 : decode cX0_init 0 = .ok (.aload_n 0, 1) := by decide +kernel
theorem dX0_init_1 : decode cX0_init 1 = .ok (.invokespecial 3, 3) := by decide +kernel
theorem dX0_init_4 : decode cX0_init 4 = .ok (.aload_n 0, 1) := by decide +kernel
theorem dX0_init_5 : decode cX0_init 5 = .ok (.iconst 5, 1) := by decide +kernel
theorem dX0_init_6 : decode cX0_init 6 = .ok (.newarray .int, 2) := by decide +kernel
theorem dX0_init_8 : decode cX0_init 8 = .ok (.dup, 1) := by decide +kernel
theorem dX0_init_9 : decode cX0_init 9 = .ok (.iconst 0, 1) := by decide +kernel
theorem dX0_init_10 : decode cX0_init 10 = .ok (.bipush 8, 2) := by decide +kernel
theorem dX0_init_12 : decode cX0_init 12 = .ok (.iastore, 1) := by decide +kernel
theorem dX0_init_13 : decode cX0_init 13 = .ok (.dup, 1) := by decide +kernel
theorem dX0_init_14 : decode cX0_init 14 = .ok (.iconst 1, 1) := by decide +kernel
theorem dX0_init_15 : decode cX0_init 15 = .ok (.bipush 40, 2) := by decide +kernel
theorem dX0_init_17 : decode cX0_init 17 = .ok (.iastore, 1) := by decide +kernel
theorem dX0_init_18 : decode cX0_init 18 = .ok (.dup, 1) := by decide +kernel
theorem dX0_init_19 : decode cX0_init 19 = .ok (.iconst 2, 1) := by decide +kernel
theorem dX0_init_20 : decode cX0_init 20 = .ok (.bipush 30, 2) := by decide +kernel
theorem dX0_init_22 : decode cX0_init 22 = .ok (.iastore, 1) := by decide +kernel
theorem dX0_init_23 : decode cX0_init 23 = .ok (.dup, 1) := by decide +kernel
theorem dX0_init_24 : decode cX0_init 24 = .ok (.iconst 3, 1) := by decide +kernel
theorem dX0_init_25 : decode cX0_init 25 = .ok (.iconst 2, 1) := by decide +kernel
theorem dX0_init_26 : decode cX0_init 26 = .ok (.iastore, 1) := by decide +kernel
theorem dX0_init_27 : decode cX0_init 27 = .ok (.dup, 1) := by decide +kernel
theorem dX0_init_28 : decode cX0_init 28 = .ok (.iconst 4, 1) := by decide +kernel
theorem dX0_init_29 : decode cX0_init 29 = .ok (.iconst 3, 1) := by decide +kernel
theorem dX0_init_30 : decode cX0_init 30 = .ok (.iastore, 1) := by decide +kernel
theorem dX0_init_31 : decode cX0_init 31 = .ok (.putfield 9, 3) := by decide +kernel
theorem dX0_init_34 : decode cX0_init 34 = .ok (.aload_n 0, 1) := by decide +kernel
theorem dX0_init_35 : decode cX0_init 35 = .ok (.bipush 6, 2) := by decide +kernel
theorem dX0_init_37 : decode cX0_init 37 = .ok (.newarray .int, 2) := by decide +kernel
theorem dX0_init_39 : decode cX0_init 39 = .ok (.dup, 1) := by decide +kernel
theorem dX0_init_40 : decode cX0_init 40 = .ok (.iconst 0, 1) := by decide +kernel
theorem dX0_init_41 : decode cX0_init 41 = .ok (.bipush 50, 2) := by decide +kernel
theorem dX0_init_43 : decode cX0_init 43 = .ok (.iastore, 1) := by decide +kernel
theorem dX0_init_44 : decode cX0_init 44 = .ok (.dup, 1) := by decide +kernel
theorem dX0_init_45 : decode cX0_init 45 = .ok (.iconst 1, 1) := by decide +kernel
theorem dX0_init_46 : decode cX0_init 46 = .ok (.bipush 50, 2) := by decide +kernel
theorem dX0_init_48 : decode cX0_init 48 = .ok (.iastore, 1) := by decide +kernel
theorem dX0_init_49 : decode cX0_init 49 = .ok (.dup, 1) := by decide +kernel
theorem dX0_init_50 : decode cX0_init 50 = .ok (.iconst 2, 1) := by decide +kernel
theorem dX0_init_51 : decode cX0_init 51 = .ok (.bipush 50, 2) := by decide +kernel
theorem dX0_init_53 : decode cX0_init 53 = .ok (.iastore, 1) := by decide +kernel
theorem dX0_init_54 : decode cX0_init 54 = .ok (.dup, 1) := by decide +kernel
theorem dX0_init_55 : decode cX0_init 55 = .ok (.iconst 3, 1) := by decide +kernel
theorem dX0_init_56 : decode cX0_init 56 = .ok (.bipush 50, 2) := by decide +kernel
theorem dX0_init_58 : decode cX0_init 58 = .ok (.iastore, 1) := by decide +kernel
theorem dX0_init_59 : decode cX0_init 59 = .ok (.dup, 1) := by decide +kernel
theorem dX0_init_60 : decode cX0_init 60 = .ok (.iconst 4, 1) := by decide +kernel
theorem dX0_init_61 : decode cX0_init 61 = .ok (.bipush 50, 2) := by decide +kernel
theorem dX0_init_63 : decode cX0_init 63 = .ok (.iastore, 1) := by decide +kernel
theorem dX0_init_64 : decode cX0_init 64 = .ok (.dup, 1) := by decide +kernel
theorem dX0_init_65 : decode cX0_init 65 = .ok (.iconst 5, 1) := by decide +kernel
theorem dX0_init_66 : decode cX0_init 66 = .ok (.bipush 50, 2) := by decide +kernel
theorem dX0_init_68 : decode cX0_init 68 = .ok (.iastore, 1) := by decide +kernel
theorem dX0_init_69 : decode cX0_init 69 = .ok (.putfield 15, 3) := by decide +kernel
theorem dX0_init_72 : decode cX0_init 72 = .ok (.aload_n 0, 1) := by decide +kernel
theorem dX0_init_73 : decode cX0_init 73 = .ok (.bipush 20, 2) := by decide +kernel
theorem dX0_init_75 : decode cX0_init 75 = .ok (.anewarray 18, 3) := by decide +kernel
theorem dX0_init_78 : decode cX0_init 78 = .ok (.putfield 20, 3) := by decide +kernel
theorem dX0_init_81 : decode cX0_init 81 = .ok (.iconst 0, 1) := by decide +kernel
theorem dX0_init_82 : decode cX0_init 82 = .ok (.istore_n 1, 1) := by decide +kernel
theorem dX0_init_83 : decode cX0_init 83 = .ok (.iload_n 1, 1) := by decide +kernel
theorem dX0_init_84 : decode cX0_init 84 = .ok (.bipush 20, 2) := by decide +kernel
theorem dX0_init_86 : decode cX0_init 86 = .ok (.if_icmp .ge 22, 3) := by decide +kernel
theorem dX0_init_89 : decode cX0_init 89 = .ok (.aload_n 0, 1) := by decide +kernel
theorem dX0_init_90 : decode cX0_init 90 = .ok (.getfield 20, 3) := by decide +kernel
theorem dX0_init_93 : decode cX0_init 93 = .ok (.iload_n 1, 1) := by decide +kernel
theorem dX0_init_94 : decode cX0_init 94 = .ok (.new 18, 3) := by decide +kernel
theorem dX0_init_97 : decode cX0_init 97 = .ok (.dup, 1) := by decide +kernel
theorem dX0_init_98 : decode cX0_init 98 = .ok (.invokespecial 24, 3) := by decide +kernel
theorem dX0_init_101 : decode cX0_init 101 = .ok (.aastore, 1) := by decide +kernel
theorem dX0_init_102 : decode cX0_init 102 = .ok (.iinc 1 1, 3) := by decide +kernel
theorem dX0_init_105 : decode cX0_init 105 = .ok (.goto (-22), 3) := by decide +kernel
theorem dX0_init_108 : decode cX0_init 108 = .ok (.aload_n 0, 1) := by decide +kernel
theorem dX0_init_109 : decode cX0_init 109 = .ok (.aload_n 0, 1) := by decide +kernel
theorem dX0_init_110 : decode cX0_init 110 = .ok (.getfield 9, 3) := by decide +kernel
theorem dX0_init_113 : decode cX0_init 113 = .ok (.iconst 0, 1) := by decide +kernel
theorem dX0_init_114 : decode cX0_init 114 = .ok (.iaload, 1) := by decide +kernel
theorem dX0_init_115 : decode cX0_init 115 = .ok (.putfield 25, 3) := by decide +kernel
theorem dX0_init_118 : decode cX0_init 118 = .ok (.return_, 1) := by decide +kernel
theorem dX0_copyFrom_0 : decode cX0_copyFrom 0 = .ok (.aload_n 1, 1) := by decide +kernel
theorem dX0_copyFrom_1 : decode cX0_copyFrom 1 = .ok (.getfield 9, 3) := by decide +kernel
theorem dX0_copyFrom_4 : decode cX0_copyFrom 4 = .ok (.iconst 0, 1) := by decide +kernel
theorem dX0_copyFrom_5 : decode cX0_copyFrom 5 = .ok (.aload_n 0, 1) := by decide +kernel
theorem dX0_copyFrom_6 : decode cX0_copyFrom 6 = .ok (.getfield 9, 3) := by decide +kernel
theorem dX0_copyFrom_9 : decode cX0_copyFrom 9 = .ok (.iconst 0, 1) := by decide +kernel
theorem dX0_copyFrom_10 : decode cX0_copyFrom 10 = .ok (.iconst 5, 1) := by decide +kernel
theorem dX0_copyFrom_11 : decode cX0_copyFrom 11 = .ok (.invokestatic 29, 3) := by decide +kernel
theorem dX0_copyFrom_14 : decode cX0_copyFrom 14 = .ok (.aload_n 1, 1) := by decide +kernel
theorem dX0_copyFrom_15 : decode cX0_copyFrom 15 = .ok (.getfield 15, 3) := by decide +kernel
theorem dX0_copyFrom_18 : decode cX0_copyFrom 18 = .ok (.iconst 0, 1) := by decide +kernel
theorem dX0_copyFrom_19 : decode cX0_copyFrom 19 = .ok (.aload_n 0, 1) := by decide +kernel
theorem dX0_copyFrom_20 : decode cX0_copyFrom 20 = .ok (.getfield 15, 3) := by decide +kernel
theorem dX0_copyFrom_23 : decode cX0_copyFrom 23 = .ok (.iconst 0, 1) := by decide +kernel
theorem dX0_copyFrom_24 : decode cX0_copyFrom 24 = .ok (.bipush 6, 2) := by decide +kernel
theorem dX0_copyFrom_26 : decode cX0_copyFrom 26 = .ok (.invokestatic 29, 3) := by decide +kernel
theorem dX0_copyFrom_29 : decode cX0_copyFrom 29 = .ok (.aload_n 0, 1) := by decide +kernel
theorem dX0_copyFrom_30 : decode cX0_copyFrom 30 = .ok (.aload_n 1, 1) := by decide +kernel
theorem dX0_copyFrom_31 : decode cX0_copyFrom 31 = .ok (.getfield 35, 3) := by decide +kernel
theorem dX0_copyFrom_34 : decode cX0_copyFrom 34 = .ok (.putfield 35, 3) := by decide +kernel
theorem dX0_copyFrom_37 : decode cX0_copyFrom 37 = .ok (.aload_n 0, 1) := by decide +kernel
theorem dX0_copyFrom_38 : decode cX0_copyFrom 38 = .ok (.aload_n 1, 1) := by decide +kernel
theorem dX0_copyFrom_39 : decode cX0_copyFrom 39 = .ok (.getfield 38, 3) := by decide +kernel
theorem dX0_copyFrom_42 : decode cX0_copyFrom 42 = .ok (.putfield 38, 3) := by decide +kernel
theorem dX0_copyFrom_45 : decode cX0_copyFrom 45 = .ok (.aload_n 0, 1) := by decide +kernel
theorem dX0_copyFrom_46 : decode cX0_copyFrom 46 = .ok (.aload_n 1, 1) := by decide +kernel
theorem dX0_copyFrom_47 : decode cX0_copyFrom 47 = .ok (.getfield 25, 3) := by decide +kernel
theorem dX0_copyFrom_50 : decode cX0_copyFrom 50 = .ok (.putfield 25, 3) := by decide +kernel
theorem dX0_copyFrom_53 : decode cX0_copyFrom 53 = .ok (.aload_n 0, 1) := by decide +kernel
theorem dX0_copyFrom_54 : decode cX0_copyFrom 54 = .ok (.aload_n 1, 1) := by decide +kernel
theorem dX0_copyFrom_55 : decode cX0_copyFrom 55 = .ok (.getfield 41, 3) := by decide +kernel
theorem dX0_copyFrom_58 : decode cX0_copyFrom 58 = .ok (.putfield 41, 3) := by decide +kernel
theorem dX0_copyFrom_61 : decode cX0_copyFrom 61 = .ok (.iconst 0, 1) := by decide +kernel
theorem dX0_copyFrom_62 : decode cX0_copyFrom 62 = .ok (.istore_n 2, 1) := by decide +kernel
theorem dX0_copyFrom_63 : decode cX0_copyFrom 63 = .ok (.iload_n 2, 1) := by decide +kernel
theorem dX0_copyFrom_64 : decode cX0_copyFrom 64 = .ok (.aload_n 0, 1) := by decide +kernel
theorem dX0_copyFrom_65 : decode cX0_copyFrom 65 = .ok (.getfield 35, 3) := by decide +kernel
theorem dX0_copyFrom_68 : decode cX0_copyFrom 68 = .ok (.if_icmp .ge 37, 3) := by decide +kernel
theorem dX0_copyFrom_71 : decode cX0_copyFrom 71 = .ok (.aload_n 0, 1) := by decide +kernel
theorem dX0_copyFrom_72 : decode cX0_copyFrom 72 = .ok (.iload_n 2, 1) := by decide +kernel
theorem dX0_copyFrom_73 : decode cX0_copyFrom 73 = .ok (.invokevirtual 44, 3) := by decide +kernel
theorem dX0_copyFrom_76 : decode cX0_copyFrom 76 = .ok (.astore_n 3, 1) := by decide +kernel
theorem dX0_copyFrom_77 : decode cX0_copyFrom 77 = .ok (.aload_n 1, 1) := by decide +kernel
theorem dX0_copyFrom_78 : decode cX0_copyFrom 78 = .ok (.iload_n 2, 1) := by decide +kernel
theorem dX0_copyFrom_79 : decode cX0_copyFrom 79 = .ok (.invokevirtual 44, 3) := by decide +kernel
theorem dX0_copyFrom_82 : decode cX0_copyFrom 82 = .ok (.astore 4, 2) := by decide +kernel
theorem dX0_copyFrom_84 : decode cX0_copyFrom 84 = .ok (.aload_n 3, 1) := by decide +kernel
theorem dX0_copyFrom_85 : decode cX0_copyFrom 85 = .ok (.ifnull 14, 3) := by decide +kernel
theorem dX0_copyFrom_88 : decode cX0_copyFrom 88 = .ok (.aload 4, 2) := by decide +kernel
theorem dX0_copyFrom_90 : decode cX0_copyFrom 90 = .ok (.ifnull 9, 3) := by decide +kernel
theorem dX0_copyFrom_93 : decode cX0_copyFrom 93 = .ok (.aload_n 3, 1) := by decide +kernel
theorem dX0_copyFrom_94 : decode cX0_copyFrom 94 = .ok (.aload 4, 2) := by decide +kernel
theorem dX0_copyFrom_96 : decode cX0_copyFrom 96 = .ok (.invokevirtual 48, 3) := by decide +kernel
theorem dX0_copyFrom_99 : decode cX0_copyFrom 99 = .ok (.iinc 2 1, 3) := by decide +kernel
theorem dX0_copyFrom_102 : decode cX0_copyFrom 102 = .ok (.goto (-39), 3) := by decide +kernel
theorem dX0_copyFrom_105 : decode cX0_copyFrom 105 = .ok (.return_, 1) := by decide +kernel
theorem dX0_today_0 : decode cX0_today 0 = .ok (.aload_n 0, 1) := by decide +kernel
theorem dX0_today_1 : decode cX0_today 1 = .ok (.getfield 38, 3) := by decide +kernel
theorem dX0_today_4 : decode cX0_today 4 = .ok (.ireturn, 1) := by decide +kernel
theorem dX0_hoursLeft_0 : decode cX0_hoursLeft 0 = .ok (.aload_n 0, 1) := by decide +kernel
theorem dX0_hoursLeft_1 : decode cX0_hoursLeft 1 = .ok (.getfield 25, 3) := by decide +kernel
theorem dX0_hoursLeft_4 : decode cX0_hoursLeft 4 = .ok (.ireturn, 1) := by decide +kernel
theorem dX0_persons_0 : decode cX0_persons 0 = .ok (.aload_n 0, 1) := by decide +kernel
theorem dX0_persons_1 : decode cX0_persons 1 = .ok (.getfield 35, 3) := by decide +kernel
theorem dX0_persons_4 : decode cX0_persons 4 = .ok (.ireturn, 1) := by decide +kernel
theorem dX0_corrections_0 : decode cX0_corrections 0 = .ok (.aload_n 0, 1) := by decide +kernel
theorem dX0_corrections_1 : decode cX0_corrections 1 = .ok (.getfield 41, 3) := by decide +kernel
theorem dX0_corrections_4 : decode cX0_corrections 4 = .ok (.ireturn, 1) := by decide +kernel
theorem dX0_roomForPersons_0 : decode cX0_roomForPersons 0 = .ok (.bipush 20, 2) := by decide +kernel
theorem dX0_roomForPersons_2 : decode cX0_roomForPersons 2 = .ok (.aload_n 0, 1) := by decide +kernel
theorem dX0_roomForPersons_3 : decode cX0_roomForPersons 3 = .ok (.getfield 35, 3) := by decide +kernel
theorem dX0_roomForPersons_6 : decode cX0_roomForPersons 6 = .ok (.isub, 1) := by decide +kernel
theorem dX0_roomForPersons_7 : decode cX0_roomForPersons 7 = .ok (.ireturn, 1) := by decide +kernel
theorem dX0_lifeOf_0 : decode cX0_lifeOf 0 = .ok (.iload_n 1, 1) := by decide +kernel
theorem dX0_lifeOf_1 : decode cX0_lifeOf 1 = .ok (.ifCond .lt 17, 3) := by decide +kernel
theorem dX0_lifeOf_4 : decode cX0_lifeOf 4 = .ok (.iload_n 1, 1) := by decide +kernel
theorem dX0_lifeOf_5 : decode cX0_lifeOf 5 = .ok (.aload_n 0, 1) := by decide +kernel
theorem dX0_lifeOf_6 : decode cX0_lifeOf 6 = .ok (.getfield 35, 3) := by decide +kernel
theorem dX0_lifeOf_9 : decode cX0_lifeOf 9 = .ok (.if_icmp .ge 9, 3) := by decide +kernel
theorem dX0_lifeOf_12 : decode cX0_lifeOf 12 = .ok (.iload_n 1, 1) := by decide +kernel
theorem dX0_lifeOf_13 : decode cX0_lifeOf 13 = .ok (.bipush 20, 2) := by decide +kernel
theorem dX0_lifeOf_15 : decode cX0_lifeOf 15 = .ok (.if_icmp .lt 5, 3) := by decide +kernel
theorem dX0_lifeOf_18 : decode cX0_lifeOf 18 = .ok (.aconst_null, 1) := by decide +kernel
theorem dX0_lifeOf_19 : decode cX0_lifeOf 19 = .ok (.areturn, 1) := by decide +kernel
theorem dX0_lifeOf_20 : decode cX0_lifeOf 20 = .ok (.aload_n 0, 1) := by decide +kernel
theorem dX0_lifeOf_21 : decode cX0_lifeOf 21 = .ok (.getfield 20, 3) := by decide +kernel
theorem dX0_lifeOf_24 : decode cX0_lifeOf 24 = .ok (.iload_n 1, 1) := by decide +kernel
theorem dX0_lifeOf_25 : decode cX0_lifeOf 25 = .ok (.aaload, 1) := by decide +kernel
theorem dX0_lifeOf_26 : decode cX0_lifeOf 26 = .ok (.areturn, 1) := by decide +kernel
theorem dX0_join_0 : decode cX0_join 0 = .ok (.aload_n 0, 1) := by decide +kernel
theorem dX0_join_1 : decode cX0_join 1 = .ok (.invokevirtual 52, 3) := by decide +kernel
theorem dX0_join_4 : decode cX0_join 4 = .ok (.iconst 1, 1) := by decide +kernel
theorem dX0_join_5 : decode cX0_join 5 = .ok (.if_icmp .ge 6, 3) := by decide +kernel
theorem dX0_join_8 : decode cX0_join 8 = .ok (.bipush (-3), 2) := by decide +kernel
theorem dX0_join_10 : decode cX0_join 10 = .ok (.ireturn, 1) := by decide +kernel
theorem dX0_join_11 : decode cX0_join 11 = .ok (.aload_n 0, 1) := by decide +kernel
theorem dX0_join_12 : decode cX0_join 12 = .ok (.dup, 1) := by decide +kernel
theorem dX0_join_13 : decode cX0_join 13 = .ok (.getfield 35, 3) := by decide +kernel
theorem dX0_join_16 : decode cX0_join 16 = .ok (.iconst 1, 1) := by decide +kernel
theorem dX0_join_17 : decode cX0_join 17 = .ok (.iadd, 1) := by decide +kernel
theorem dX0_join_18 : decode cX0_join 18 = .ok (.putfield 35, 3) := by decide +kernel
theorem dX0_join_21 : decode cX0_join 21 = .ok (.aload_n 0, 1) := by decide +kernel
theorem dX0_join_22 : decode cX0_join 22 = .ok (.aload_n 0, 1) := by decide +kernel
theorem dX0_join_23 : decode cX0_join 23 = .ok (.getfield 35, 3) := by decide +kernel
theorem dX0_join_26 : decode cX0_join 26 = .ok (.iconst 1, 1) := by decide +kernel
theorem dX0_join_27 : decode cX0_join 27 = .ok (.isub, 1) := by decide +kernel
theorem dX0_join_28 : decode cX0_join 28 = .ok (.invokevirtual 44, 3) := by decide +kernel
theorem dX0_join_31 : decode cX0_join 31 = .ok (.astore_n 3, 1) := by decide +kernel
theorem dX0_join_32 : decode cX0_join 32 = .ok (.aload_n 3, 1) := by decide +kernel
theorem dX0_join_33 : decode cX0_join 33 = .ok (.ifnull 9, 3) := by decide +kernel
theorem dX0_join_36 : decode cX0_join 36 = .ok (.aload_n 3, 1) := by decide +kernel
theorem dX0_join_37 : decode cX0_join 37 = .ok (.iload_n 1, 1) := by decide +kernel
theorem dX0_join_38 : decode cX0_join 38 = .ok (.iload_n 2, 1) := by decide +kernel
theorem dX0_join_39 : decode cX0_join 39 = .ok (.invokevirtual 56, 3) := by decide +kernel
theorem dX0_join_42 : decode cX0_join 42 = .ok (.aload_n 0, 1) := by decide +kernel
theorem dX0_join_43 : decode cX0_join 43 = .ok (.getfield 35, 3) := by decide +kernel
theorem dX0_join_46 : decode cX0_join 46 = .ok (.iconst 1, 1) := by decide +kernel
theorem dX0_join_47 : decode cX0_join 47 = .ok (.isub, 1) := by decide +kernel
theorem dX0_join_48 : decode cX0_join 48 = .ok (.ireturn, 1) := by decide +kernel
theorem dX0_joinLike_0 : decode cX0_joinLike 0 = .ok (.aload_n 1, 1) := by decide +kernel
theorem dX0_joinLike_1 : decode cX0_joinLike 1 = .ok (.ifnonnull 4, 3) := by decide +kernel
theorem dX0_joinLike_4 : decode cX0_joinLike 4 = .ok (.return_, 1) := by decide +kernel
theorem dX0_joinLike_5 : decode cX0_joinLike 5 = .ok (.aload_n 0, 1) := by decide +kernel
theorem dX0_joinLike_6 : decode cX0_joinLike 6 = .ok (.aload_n 0, 1) := by decide +kernel
theorem dX0_joinLike_7 : decode cX0_joinLike 7 = .ok (.aload_n 1, 1) := by decide +kernel
theorem dX0_joinLike_8 : decode cX0_joinLike 8 = .ok (.invokevirtual 60, 3) := by decide +kernel
theorem dX0_joinLike_11 : decode cX0_joinLike 11 = .ok (.aload_n 1, 1) := by decide +kernel
theorem dX0_joinLike_12 : decode cX0_joinLike 12 = .ok (.invokevirtual 63, 3) := by decide +kernel
theorem dX0_joinLike_15 : decode cX0_joinLike 15 = .ok (.invokevirtual 66, 3) := by decide +kernel
theorem dX0_joinLike_18 : decode cX0_joinLike 18 = .ok (.invokevirtual 44, 3) := by decide +kernel
theorem dX0_joinLike_21 : decode cX0_joinLike 21 = .ok (.astore_n 2, 1) := by decide +kernel
theorem dX0_joinLike_22 : decode cX0_joinLike 22 = .ok (.aload_n 2, 1) := by decide +kernel
theorem dX0_joinLike_23 : decode cX0_joinLike 23 = .ok (.ifnull 8, 3) := by decide +kernel
theorem dX0_joinLike_26 : decode cX0_joinLike 26 = .ok (.aload_n 2, 1) := by decide +kernel
theorem dX0_joinLike_27 : decode cX0_joinLike 27 = .ok (.aload_n 1, 1) := by decide +kernel
theorem dX0_joinLike_28 : decode cX0_joinLike 28 = .ok (.invokevirtual 48, 3) := by decide +kernel
theorem dX0_joinLike_31 : decode cX0_joinLike 31 = .ok (.return_, 1) := by decide +kernel
theorem dX0_spendHours_0 : decode cX0_spendHours 0 = .ok (.aload_n 0, 1) := by decide +kernel
theorem dX0_spendHours_1 : decode cX0_spendHours 1 = .ok (.dup, 1) := by decide +kernel
theorem dX0_spendHours_2 : decode cX0_spendHours 2 = .ok (.getfield 25, 3) := by decide +kernel
theorem dX0_spendHours_5 : decode cX0_spendHours 5 = .ok (.iload_n 1, 1) := by decide +kernel
theorem dX0_spendHours_6 : decode cX0_spendHours 6 = .ok (.isub, 1) := by decide +kernel
theorem dX0_spendHours_7 : decode cX0_spendHours 7 = .ok (.putfield 25, 3) := by decide +kernel
theorem dX0_spendHours_10 : decode cX0_spendHours 10 = .ok (.return_, 1) := by decide +kernel
theorem dX0_setting_0 : decode cX0_setting 0 = .ok (.iload_n 1, 1) := by decide +kernel
theorem dX0_setting_1 : decode cX0_setting 1 = .ok (.invokestatic 70, 3) := by decide +kernel
theorem dX0_setting_4 : decode cX0_setting 4 = .ok (.ifCond .eq 12, 3) := by decide +kernel
theorem dX0_setting_7 : decode cX0_setting 7 = .ok (.aload_n 0, 1) := by decide +kernel
theorem dX0_setting_8 : decode cX0_setting 8 = .ok (.getfield 9, 3) := by decide +kernel
theorem dX0_setting_11 : decode cX0_setting 11 = .ok (.iload_n 1, 1) := by decide +kernel
theorem dX0_setting_12 : decode cX0_setting 12 = .ok (.iaload, 1) := by decide +kernel
theorem dX0_setting_13 : decode cX0_setting 13 = .ok (.goto 5, 3) := by decide +kernel
theorem dX0_setting_16 : decode cX0_setting 16 = .ok (.bipush (-2), 2) := by decide +kernel
theorem dX0_setting_18 : decode cX0_setting 18 = .ok (.ireturn, 1) := by decide +kernel
theorem dX0_changeSetting_0 : decode cX0_changeSetting 0 = .ok (.iload_n 1, 1) := by decide +kernel
theorem dX0_changeSetting_1 : decode cX0_changeSetting 1 = .ok (.invokestatic 70, 3) := by decide +kernel
theorem dX0_changeSetting_4 : decode cX0_changeSetting 4 = .ok (.ifCond .eq 10, 3) := by decide +kernel
theorem dX0_changeSetting_7 : decode cX0_changeSetting 7 = .ok (.aload_n 0, 1) := by decide +kernel
theorem dX0_changeSetting_8 : decode cX0_changeSetting 8 = .ok (.getfield 9, 3) := by decide +kernel
theorem dX0_changeSetting_11 : decode cX0_changeSetting 11 = .ok (.iload_n 1, 1) := by decide +kernel
theorem dX0_changeSetting_12 : decode cX0_changeSetting 12 = .ok (.iload_n 2, 1) := by decide +kernel
theorem dX0_changeSetting_13 : decode cX0_changeSetting 13 = .ok (.iastore, 1) := by decide +kernel
theorem dX0_changeSetting_14 : decode cX0_changeSetting 14 = .ok (.return_, 1) := by decide +kernel
theorem dX0_trustOf_0 : decode cX0_trustOf 0 = .ok (.iload_n 1, 1) := by decide +kernel
theorem dX0_trustOf_1 : decode cX0_trustOf 1 = .ok (.invokestatic 74, 3) := by decide +kernel
theorem dX0_trustOf_4 : decode cX0_trustOf 4 = .ok (.ifCond .eq 12, 3) := by decide +kernel
theorem dX0_trustOf_7 : decode cX0_trustOf 7 = .ok (.aload_n 0, 1) := by decide +kernel
theorem dX0_trustOf_8 : decode cX0_trustOf 8 = .ok (.getfield 15, 3) := by decide +kernel
theorem dX0_trustOf_11 : decode cX0_trustOf 11 = .ok (.iload_n 1, 1) := by decide +kernel
theorem dX0_trustOf_12 : decode cX0_trustOf 12 = .ok (.iaload, 1) := by decide +kernel
theorem dX0_trustOf_13 : decode cX0_trustOf 13 = .ok (.goto 4, 3) := by decide +kernel
theorem dX0_trustOf_16 : decode cX0_trustOf 16 = .ok (.iconst 0, 1) := by decide +kernel
theorem dX0_trustOf_17 : decode cX0_trustOf 17 = .ok (.ireturn, 1) := by decide +kernel
theorem dX0_changeTrust_0 : decode cX0_changeTrust 0 = .ok (.iload_n 1, 1) := by decide +kernel
theorem dX0_changeTrust_1 : decode cX0_changeTrust 1 = .ok (.invokestatic 74, 3) := by decide +kernel
theorem dX0_changeTrust_4 : decode cX0_changeTrust 4 = .ok (.ifCond .eq 10, 3) := by decide +kernel
theorem dX0_changeTrust_7 : decode cX0_changeTrust 7 = .ok (.aload_n 0, 1) := by decide +kernel
theorem dX0_changeTrust_8 : decode cX0_changeTrust 8 = .ok (.getfield 15, 3) := by decide +kernel
theorem dX0_changeTrust_11 : decode cX0_changeTrust 11 = .ok (.iload_n 1, 1) := by decide +kernel
theorem dX0_changeTrust_12 : decode cX0_changeTrust 12 = .ok (.iload_n 2, 1) := by decide +kernel
theorem dX0_changeTrust_13 : decode cX0_changeTrust 13 = .ok (.iastore, 1) := by decide +kernel
theorem dX0_changeTrust_14 : decode cX0_changeTrust 14 = .ok (.return_, 1) := by decide +kernel
theorem dX0_countCorrection_0 : decode cX0_countCorrection 0 = .ok (.aload_n 0, 1) := by decide +kernel
theorem dX0_countCorrection_1 : decode cX0_countCorrection 1 = .ok (.dup, 1) := by decide +kernel
theorem dX0_countCorrection_2 : decode cX0_countCorrection 2 = .ok (.getfield 41, 3) := by decide +kernel
theorem dX0_countCorrection_5 : decode cX0_countCorrection 5 = .ok (.iconst 1, 1) := by decide +kernel
theorem dX0_countCorrection_6 : decode cX0_countCorrection 6 = .ok (.iadd, 1) := by decide +kernel
theorem dX0_countCorrection_7 : decode cX0_countCorrection 7 = .ok (.putfield 41, 3) := by decide +kernel
theorem dX0_countCorrection_10 : decode cX0_countCorrection 10 = .ok (.aload_n 0, 1) := by decide +kernel
theorem dX0_countCorrection_11 : decode cX0_countCorrection 11 = .ok (.getfield 41, 3) := by decide +kernel
theorem dX0_countCorrection_14 : decode cX0_countCorrection 14 = .ok (.ireturn, 1) := by decide +kernel
theorem dX0_personsIn_0 : decode cX0_personsIn 0 = .ok (.iconst 0, 1) := by decide +kernel
theorem dX0_personsIn_1 : decode cX0_personsIn 1 = .ok (.istore_n 2, 1) := by decide +kernel
theorem dX0_personsIn_2 : decode cX0_personsIn 2 = .ok (.iconst 0, 1) := by decide +kernel
theorem dX0_personsIn_3 : decode cX0_personsIn 3 = .ok (.istore_n 3, 1) := by decide +kernel
theorem dX0_personsIn_4 : decode cX0_personsIn 4 = .ok (.iload_n 3, 1) := by decide +kernel
theorem dX0_personsIn_5 : decode cX0_personsIn 5 = .ok (.aload_n 0, 1) := by decide +kernel
theorem dX0_personsIn_6 : decode cX0_personsIn 6 = .ok (.getfield 35, 3) := by decide +kernel
theorem dX0_personsIn_9 : decode cX0_personsIn 9 = .ok (.if_icmp .ge 33, 3) := by decide +kernel
theorem dX0_personsIn_12 : decode cX0_personsIn 12 = .ok (.aload_n 0, 1) := by decide +kernel
theorem dX0_personsIn_13 : decode cX0_personsIn 13 = .ok (.iload_n 3, 1) := by decide +kernel
theorem dX0_personsIn_14 : decode cX0_personsIn 14 = .ok (.invokevirtual 44, 3) := by decide +kernel
theorem dX0_personsIn_17 : decode cX0_personsIn 17 = .ok (.astore 4, 2) := by decide +kernel
theorem dX0_personsIn_19 : decode cX0_personsIn 19 = .ok (.aload 4, 2) := by decide +kernel
theorem dX0_personsIn_21 : decode cX0_personsIn 21 = .ok (.ifnull 15, 3) := by decide +kernel
theorem dX0_personsIn_24 : decode cX0_personsIn 24 = .ok (.aload 4, 2) := by decide +kernel
theorem dX0_personsIn_26 : decode cX0_personsIn 26 = .ok (.iload_n 1, 1) := by decide +kernel
theorem dX0_personsIn_27 : decode cX0_personsIn 27 = .ok (.invokevirtual 77, 3) := by decide +kernel
theorem dX0_personsIn_30 : decode cX0_personsIn 30 = .ok (.ifCond .eq 6, 3) := by decide +kernel
theorem dX0_personsIn_33 : decode cX0_personsIn 33 = .ok (.iinc 2 1, 3) := by decide +kernel
theorem dX0_personsIn_36 : decode cX0_personsIn 36 = .ok (.iinc 3 1, 3) := by decide +kernel
theorem dX0_personsIn_39 : decode cX0_personsIn 39 = .ok (.goto (-35), 3) := by decide +kernel
theorem dX0_personsIn_42 : decode cX0_personsIn 42 = .ok (.iload_n 2, 1) := by decide +kernel
theorem dX0_personsIn_43 : decode cX0_personsIn 43 = .ok (.ireturn, 1) := by decide +kernel
theorem dX0_facts_0 : decode cX0_facts 0 = .ok (.iconst 0, 1) := by decide +kernel
theorem dX0_facts_1 : decode cX0_facts 1 = .ok (.istore_n 1, 1) := by decide +kernel
theorem dX0_facts_2 : decode cX0_facts 2 = .ok (.iconst 0, 1) := by decide +kernel
theorem dX0_facts_3 : decode cX0_facts 3 = .ok (.istore_n 2, 1) := by decide +kernel
theorem dX0_facts_4 : decode cX0_facts 4 = .ok (.iload_n 2, 1) := by decide +kernel
theorem dX0_facts_5 : decode cX0_facts 5 = .ok (.aload_n 0, 1) := by decide +kernel
theorem dX0_facts_6 : decode cX0_facts 6 = .ok (.getfield 35, 3) := by decide +kernel
theorem dX0_facts_9 : decode cX0_facts 9 = .ok (.if_icmp .ge 26, 3) := by decide +kernel
theorem dX0_facts_12 : decode cX0_facts 12 = .ok (.aload_n 0, 1) := by decide +kernel
theorem dX0_facts_13 : decode cX0_facts 13 = .ok (.iload_n 2, 1) := by decide +kernel
theorem dX0_facts_14 : decode cX0_facts 14 = .ok (.invokevirtual 44, 3) := by decide +kernel
theorem dX0_facts_17 : decode cX0_facts 17 = .ok (.astore_n 3, 1) := by decide +kernel
theorem dX0_facts_18 : decode cX0_facts 18 = .ok (.aload_n 3, 1) := by decide +kernel
theorem dX0_facts_19 : decode cX0_facts 19 = .ok (.ifnull 10, 3) := by decide +kernel
theorem dX0_facts_22 : decode cX0_facts 22 = .ok (.iload_n 1, 1) := by decide +kernel
theorem dX0_facts_23 : decode cX0_facts 23 = .ok (.aload_n 3, 1) := by decide +kernel
theorem dX0_facts_24 : decode cX0_facts 24 = .ok (.invokevirtual 80, 3) := by decide +kernel
theorem dX0_facts_27 : decode cX0_facts 27 = .ok (.iadd, 1) := by decide +kernel
theorem dX0_facts_28 : decode cX0_facts 28 = .ok (.istore_n 1, 1) := by decide +kernel
theorem dX0_facts_29 : decode cX0_facts 29 = .ok (.iinc 2 1, 3) := by decide +kernel
theorem dX0_facts_32 : decode cX0_facts 32 = .ok (.goto (-28), 3) := by decide +kernel
theorem dX0_facts_35 : decode cX0_facts 35 = .ok (.iload_n 1, 1) := by decide +kernel
theorem dX0_facts_36 : decode cX0_facts 36 = .ok (.ireturn, 1) := by decide +kernel
theorem dX0_worthOf_0 : decode cX0_worthOf 0 = .ok (.aload_n 0, 1) := by decide +kernel
theorem dX0_worthOf_1 : decode cX0_worthOf 1 = .ok (.aload_n 1, 1) := by decide +kernel
theorem dX0_worthOf_2 : decode cX0_worthOf 2 = .ok (.iload_n 2, 1) := by decide +kernel
theorem dX0_worthOf_3 : decode cX0_worthOf 3 = .ok (.invokevirtual 83, 3) := by decide +kernel
theorem dX0_worthOf_6 : decode cX0_worthOf 6 = .ok (.invokevirtual 87, 3) := by decide +kernel
theorem dX0_worthOf_9 : decode cX0_worthOf 9 = .ok (.i2f, 1) := by decide +kernel
theorem dX0_worthOf_10 : decode cX0_worthOf 10 = .ok (.ldc 90, 2) := by decide +kernel
theorem dX0_worthOf_12 : decode cX0_worthOf 12 = .ok (.fdiv, 1) := by decide +kernel
theorem dX0_worthOf_13 : decode cX0_worthOf 13 = .ok (.fstore 4, 2) := by decide +kernel
theorem dX0_worthOf_15 : decode cX0_worthOf 15 = .ok (.iload_n 3, 1) := by decide +kernel
theorem dX0_worthOf_16 : decode cX0_worthOf 16 = .ok (.aload_n 1, 1) := by decide +kernel
theorem dX0_worthOf_17 : decode cX0_worthOf 17 = .ok (.iload_n 2, 1) := by decide +kernel
theorem dX0_worthOf_18 : decode cX0_worthOf 18 = .ok (.invokevirtual 91, 3) := by decide +kernel
theorem dX0_worthOf_21 : decode cX0_worthOf 21 = .ok (.isub, 1) := by decide +kernel
theorem dX0_worthOf_22 : decode cX0_worthOf 22 = .ok (.bipush 10, 2) := by decide +kernel
theorem dX0_worthOf_24 : decode cX0_worthOf 24 = .ok (.idiv, 1) := by decide +kernel
theorem dX0_worthOf_25 : decode cX0_worthOf 25 = .ok (.istore 5, 2) := by decide +kernel
theorem dX0_worthOf_27 : decode cX0_worthOf 27 = .ok (.iconst 0, 1) := by decide +kernel
theorem dX0_worthOf_28 : decode cX0_worthOf 28 = .ok (.istore 6, 2) := by decide +kernel
theorem dX0_worthOf_30 : decode cX0_worthOf 30 = .ok (.iload 6, 2) := by decide +kernel
theorem dX0_worthOf_32 : decode cX0_worthOf 32 = .ok (.iload 5, 2) := by decide +kernel
theorem dX0_worthOf_34 : decode cX0_worthOf 34 = .ok (.if_icmp .ge 16, 3) := by decide +kernel
theorem dX0_worthOf_37 : decode cX0_worthOf 37 = .ok (.fload 4, 2) := by decide +kernel
theorem dX0_worthOf_39 : decode cX0_worthOf 39 = .ok (.ldc 94, 2) := by decide +kernel
theorem dX0_worthOf_41 : decode cX0_worthOf 41 = .ok (.fmul, 1) := by decide +kernel
theorem dX0_worthOf_42 : decode cX0_worthOf 42 = .ok (.fstore 4, 2) := by decide +kernel
theorem dX0_worthOf_44 : decode cX0_worthOf 44 = .ok (.iinc 6 1, 3) := by decide +kernel
theorem dX0_worthOf_47 : decode cX0_worthOf 47 = .ok (.goto (-17), 3) := by decide +kernel
theorem dX0_worthOf_50 : decode cX0_worthOf 50 = .ok (.fload 4, 2) := by decide +kernel
theorem dX0_worthOf_52 : decode cX0_worthOf 52 = .ok (.freturn, 1) := by decide +kernel
theorem dX0_worthOfLife_0 : decode cX0_worthOfLife 0 = .ok (.fconst 0, 1) := by decide +kernel
theorem dX0_worthOfLife_1 : decode cX0_worthOfLife 1 = .ok (.fstore_n 2, 1) := by decide +kernel
theorem dX0_worthOfLife_2 : decode cX0_worthOfLife 2 = .ok (.iconst 0, 1) := by decide +kernel
theorem dX0_worthOfLife_3 : decode cX0_worthOfLife 3 = .ok (.istore_n 3, 1) := by decide +kernel
theorem dX0_worthOfLife_4 : decode cX0_worthOfLife 4 = .ok (.iload_n 3, 1) := by decide +kernel
theorem dX0_worthOfLife_5 : decode cX0_worthOfLife 5 = .ok (.aload_n 1, 1) := by decide +kernel
theorem dX0_worthOfLife_6 : decode cX0_worthOfLife 6 = .ok (.invokevirtual 80, 3) := by decide +kernel
theorem dX0_worthOfLife_9 : decode cX0_worthOfLife 9 = .ok (.if_icmp .ge 29, 3) := by decide +kernel
theorem dX0_worthOfLife_12 : decode cX0_worthOfLife 12 = .ok (.fload_n 2, 1) := by decide +kernel
theorem dX0_worthOfLife_13 : decode cX0_worthOfLife 13 = .ok (.aload_n 0, 1) := by decide +kernel
theorem dX0_worthOfLife_14 : decode cX0_worthOfLife 14 = .ok (.aload_n 1, 1) := by decide +kernel
theorem dX0_worthOfLife_15 : decode cX0_worthOfLife 15 = .ok (.iload_n 3, 1) := by decide +kernel
theorem dX0_worthOfLife_16 : decode cX0_worthOfLife 16 = .ok (.aload_n 0, 1) := by decide +kernel
theorem dX0_worthOfLife_17 : decode cX0_worthOfLife 17 = .ok (.getfield 38, 3) := by decide +kernel
theorem dX0_worthOfLife_20 : decode cX0_worthOfLife 20 = .ok (.invokevirtual 95, 3) := by decide +kernel
theorem dX0_worthOfLife_23 : decode cX0_worthOfLife 23 = .ok (.aload_n 1, 1) := by decide +kernel
theorem dX0_worthOfLife_24 : decode cX0_worthOfLife 24 = .ok (.iload_n 3, 1) := by decide +kernel
theorem dX0_worthOfLife_25 : decode cX0_worthOfLife 25 = .ok (.invokevirtual 99, 3) := by decide +kernel
theorem dX0_worthOfLife_28 : decode cX0_worthOfLife 28 = .ok (.i2f, 1) := by decide +kernel
theorem dX0_worthOfLife_29 : decode cX0_worthOfLife 29 = .ok (.fmul, 1) := by decide +kernel
theorem dX0_worthOfLife_30 : decode cX0_worthOfLife 30 = .ok (.fadd, 1) := by decide +kernel
theorem dX0_worthOfLife_31 : decode cX0_worthOfLife 31 = .ok (.fstore_n 2, 1) := by decide +kernel
theorem dX0_worthOfLife_32 : decode cX0_worthOfLife 32 = .ok (.iinc 3 1, 3) := by decide +kernel
theorem dX0_worthOfLife_35 : decode cX0_worthOfLife 35 = .ok (.goto (-31), 3) := by decide +kernel
theorem dX0_worthOfLife_38 : decode cX0_worthOfLife 38 = .ok (.fload_n 2, 1) := by decide +kernel
theorem dX0_worthOfLife_39 : decode cX0_worthOfLife 39 = .ok (.freturn, 1) := by decide +kernel
theorem dX0_bound_0 : decode cX0_bound 0 = .ok (.aload_n 0, 1) := by decide +kernel
theorem dX0_bound_1 : decode cX0_bound 1 = .ok (.iconst 2, 1) := by decide +kernel
theorem dX0_bound_2 : decode cX0_bound 2 = .ok (.invokevirtual 102, 3) := by decide +kernel
theorem dX0_bound_5 : decode cX0_bound 5 = .ok (.i2f, 1) := by decide +kernel
theorem dX0_bound_6 : decode cX0_bound 6 = .ok (.ldc 90, 2) := by decide +kernel
theorem dX0_bound_8 : decode cX0_bound 8 = .ok (.fdiv, 1) := by decide +kernel
theorem dX0_bound_9 : decode cX0_bound 9 = .ok (.freturn, 1) := by decide +kernel
theorem dX0_isStale_0 : decode cX0_isStale 0 = .ok (.aload_n 0, 1) := by decide +kernel
theorem dX0_isStale_1 : decode cX0_isStale 1 = .ok (.aload_n 1, 1) := by decide +kernel
theorem dX0_isStale_2 : decode cX0_isStale 2 = .ok (.iload_n 2, 1) := by decide +kernel
theorem dX0_isStale_3 : decode cX0_isStale 3 = .ok (.aload_n 0, 1) := by decide +kernel
theorem dX0_isStale_4 : decode cX0_isStale 4 = .ok (.getfield 38, 3) := by decide +kernel
theorem dX0_isStale_7 : decode cX0_isStale 7 = .ok (.invokevirtual 95, 3) := by decide +kernel
theorem dX0_isStale_10 : decode cX0_isStale 10 = .ok (.aload_n 0, 1) := by decide +kernel
theorem dX0_isStale_11 : decode cX0_isStale 11 = .ok (.invokevirtual 105, 3) := by decide +kernel
theorem dX0_isStale_14 : decode cX0_isStale 14 = .ok (.fcmp .g, 1) := by decide +kernel
theorem dX0_isStale_15 : decode cX0_isStale 15 = .ok (.ifCond .ge 7, 3) := by decide +kernel
theorem dX0_isStale_18 : decode cX0_isStale 18 = .ok (.iconst 1, 1) := by decide +kernel
theorem dX0_isStale_19 : decode cX0_isStale 19 = .ok (.goto 4, 3) := by decide +kernel
theorem dX0_isStale_22 : decode cX0_isStale 22 = .ok (.iconst 0, 1) := by decide +kernel
theorem dX0_isStale_23 : decode cX0_isStale 23 = .ok (.ireturn, 1) := by decide +kernel
theorem dX0_staleFactsOf_0 : decode cX0_staleFactsOf 0 = .ok (.aload_n 0, 1) := by decide +kernel
theorem dX0_staleFactsOf_1 : decode cX0_staleFactsOf 1 = .ok (.invokevirtual 105, 3) := by decide +kernel
theorem dX0_staleFactsOf_4 : decode cX0_staleFactsOf 4 = .ok (.fstore_n 3, 1) := by decide +kernel
theorem dX0_staleFactsOf_5 : decode cX0_staleFactsOf 5 = .ok (.iconst 0, 1) := by decide +kernel
theorem dX0_staleFactsOf_6 : decode cX0_staleFactsOf 6 = .ok (.istore 4, 2) := by decide +kernel
theorem dX0_staleFactsOf_8 : decode cX0_staleFactsOf 8 = .ok (.iconst 0, 1) := by decide +kernel
theorem dX0_staleFactsOf_9 : decode cX0_staleFactsOf 9 = .ok (.istore 5, 2) := by decide +kernel
theorem dX0_staleFactsOf_11 : decode cX0_staleFactsOf 11 = .ok (.iload 5, 2) := by decide +kernel
theorem dX0_staleFactsOf_13 : decode cX0_staleFactsOf 13 = .ok (.aload_n 1, 1) := by decide +kernel
theorem dX0_staleFactsOf_14 : decode cX0_staleFactsOf 14 = .ok (.invokevirtual 80, 3) := by decide +kernel
theorem dX0_staleFactsOf_17 : decode cX0_staleFactsOf 17 = .ok (.if_icmp .ge 25, 3) := by decide +kernel
theorem dX0_staleFactsOf_20 : decode cX0_staleFactsOf 20 = .ok (.aload_n 0, 1) := by decide +kernel
theorem dX0_staleFactsOf_21 : decode cX0_staleFactsOf 21 = .ok (.aload_n 1, 1) := by decide +kernel
theorem dX0_staleFactsOf_22 : decode cX0_staleFactsOf 22 = .ok (.iload 5, 2) := by decide +kernel
theorem dX0_staleFactsOf_24 : decode cX0_staleFactsOf 24 = .ok (.iload_n 2, 1) := by decide +kernel
theorem dX0_staleFactsOf_25 : decode cX0_staleFactsOf 25 = .ok (.invokevirtual 95, 3) := by decide +kernel
theorem dX0_staleFactsOf_28 : decode cX0_staleFactsOf 28 = .ok (.fload_n 3, 1) := by decide +kernel
theorem dX0_staleFactsOf_29 : decode cX0_staleFactsOf 29 = .ok (.fcmp .g, 1) := by decide +kernel
theorem dX0_staleFactsOf_30 : decode cX0_staleFactsOf 30 = .ok (.ifCond .ge 6, 3) := by decide +kernel
theorem dX0_staleFactsOf_33 : decode cX0_staleFactsOf 33 = .ok (.iinc 4 1, 3) := by decide +kernel
theorem dX0_staleFactsOf_36 : decode cX0_staleFactsOf 36 = .ok (.iinc 5 1, 3) := by decide +kernel
theorem dX0_staleFactsOf_39 : decode cX0_staleFactsOf 39 = .ok (.goto (-28), 3) := by decide +kernel
theorem dX0_staleFactsOf_42 : decode cX0_staleFactsOf 42 = .ok (.iload 4, 2) := by decide +kernel
theorem dX0_staleFactsOf_44 : decode cX0_staleFactsOf 44 = .ok (.ireturn, 1) := by decide +kernel
theorem dX0_staleFactsOn_0 : decode cX0_staleFactsOn 0 = .ok (.iconst 0, 1) := by decide +kernel
theorem dX0_staleFactsOn_1 : decode cX0_staleFactsOn 1 = .ok (.istore_n 2, 1) := by decide +kernel
theorem dX0_staleFactsOn_2 : decode cX0_staleFactsOn 2 = .ok (.iconst 0, 1) := by decide +kernel
theorem dX0_staleFactsOn_3 : decode cX0_staleFactsOn 3 = .ok (.istore_n 3, 1) := by decide +kernel
theorem dX0_staleFactsOn_4 : decode cX0_staleFactsOn 4 = .ok (.iload_n 3, 1) := by decide +kernel
theorem dX0_staleFactsOn_5 : decode cX0_staleFactsOn 5 = .ok (.aload_n 0, 1) := by decide +kernel
theorem dX0_staleFactsOn_6 : decode cX0_staleFactsOn 6 = .ok (.getfield 35, 3) := by decide +kernel
theorem dX0_staleFactsOn_9 : decode cX0_staleFactsOn 9 = .ok (.if_icmp .ge 40, 3) := by decide +kernel
theorem dX0_staleFactsOn_12 : decode cX0_staleFactsOn 12 = .ok (.aload_n 0, 1) := by decide +kernel
theorem dX0_staleFactsOn_13 : decode cX0_staleFactsOn 13 = .ok (.iload_n 3, 1) := by decide +kernel
theorem dX0_staleFactsOn_14 : decode cX0_staleFactsOn 14 = .ok (.invokevirtual 44, 3) := by decide +kernel
theorem dX0_staleFactsOn_17 : decode cX0_staleFactsOn 17 = .ok (.astore 4, 2) := by decide +kernel
theorem dX0_staleFactsOn_19 : decode cX0_staleFactsOn 19 = .ok (.aload 4, 2) := by decide +kernel
theorem dX0_staleFactsOn_21 : decode cX0_staleFactsOn 21 = .ok (.ifnull 22, 3) := by decide +kernel
theorem dX0_staleFactsOn_24 : decode cX0_staleFactsOn 24 = .ok (.aload 4, 2) := by decide +kernel
theorem dX0_staleFactsOn_26 : decode cX0_staleFactsOn 26 = .ok (.iconst 3, 1) := by decide +kernel
theorem dX0_staleFactsOn_27 : decode cX0_staleFactsOn 27 = .ok (.invokevirtual 77, 3) := by decide +kernel
theorem dX0_staleFactsOn_30 : decode cX0_staleFactsOn 30 = .ok (.ifCond .ne 13, 3) := by decide +kernel
theorem dX0_staleFactsOn_33 : decode cX0_staleFactsOn 33 = .ok (.iload_n 2, 1) := by decide +kernel
theorem dX0_staleFactsOn_34 : decode cX0_staleFactsOn 34 = .ok (.aload_n 0, 1) := by decide +kernel
theorem dX0_staleFactsOn_35 : decode cX0_staleFactsOn 35 = .ok (.aload 4, 2) := by decide +kernel
theorem dX0_staleFactsOn_37 : decode cX0_staleFactsOn 37 = .ok (.iload_n 1, 1) := by decide +kernel
theorem dX0_staleFactsOn_38 : decode cX0_staleFactsOn 38 = .ok (.invokevirtual 109, 3) := by decide +kernel
theorem dX0_staleFactsOn_41 : decode cX0_staleFactsOn 41 = .ok (.iadd, 1) := by decide +kernel
theorem dX0_staleFactsOn_42 : decode cX0_staleFactsOn 42 = .ok (.istore_n 2, 1) := by decide +kernel
theorem dX0_staleFactsOn_43 : decode cX0_staleFactsOn 43 = .ok (.iinc 3 1, 3) := by decide +kernel
theorem dX0_staleFactsOn_46 : decode cX0_staleFactsOn 46 = .ok (.goto (-42), 3) := by decide +kernel
theorem dX0_staleFactsOn_49 : decode cX0_staleFactsOn 49 = .ok (.iload_n 2, 1) := by decide +kernel
theorem dX0_staleFactsOn_50 : decode cX0_staleFactsOn 50 = .ok (.ireturn, 1) := by decide +kernel
theorem dX0_factsFrom_0 : decode cX0_factsFrom 0 = .ok (.iconst 0, 1) := by decide +kernel
theorem dX0_factsFrom_1 : decode cX0_factsFrom 1 = .ok (.istore_n 2, 1) := by decide +kernel
theorem dX0_factsFrom_2 : decode cX0_factsFrom 2 = .ok (.iconst 0, 1) := by decide +kernel
theorem dX0_factsFrom_3 : decode cX0_factsFrom 3 = .ok (.istore_n 3, 1) := by decide +kernel
theorem dX0_factsFrom_4 : decode cX0_factsFrom 4 = .ok (.iload_n 3, 1) := by decide +kernel
theorem dX0_factsFrom_5 : decode cX0_factsFrom 5 = .ok (.aload_n 0, 1) := by decide +kernel
theorem dX0_factsFrom_6 : decode cX0_factsFrom 6 = .ok (.getfield 35, 3) := by decide +kernel
theorem dX0_factsFrom_9 : decode cX0_factsFrom 9 = .ok (.if_icmp .ge 54, 3) := by decide +kernel
theorem dX0_factsFrom_12 : decode cX0_factsFrom 12 = .ok (.aload_n 0, 1) := by decide +kernel
theorem dX0_factsFrom_13 : decode cX0_factsFrom 13 = .ok (.iload_n 3, 1) := by decide +kernel
theorem dX0_factsFrom_14 : decode cX0_factsFrom 14 = .ok (.invokevirtual 44, 3) := by decide +kernel
theorem dX0_factsFrom_17 : decode cX0_factsFrom 17 = .ok (.astore 4, 2) := by decide +kernel
theorem dX0_factsFrom_19 : decode cX0_factsFrom 19 = .ok (.iconst 0, 1) := by decide +kernel
theorem dX0_factsFrom_20 : decode cX0_factsFrom 20 = .ok (.istore 5, 2) := by decide +kernel
theorem dX0_factsFrom_22 : decode cX0_factsFrom 22 = .ok (.aload 4, 2) := by decide +kernel
theorem dX0_factsFrom_24 : decode cX0_factsFrom 24 = .ok (.ifnull 33, 3) := by decide +kernel
theorem dX0_factsFrom_27 : decode cX0_factsFrom 27 = .ok (.iload 5, 2) := by decide +kernel
theorem dX0_factsFrom_29 : decode cX0_factsFrom 29 = .ok (.aload 4, 2) := by decide +kernel
theorem dX0_factsFrom_31 : decode cX0_factsFrom 31 = .ok (.invokevirtual 80, 3) := by decide +kernel
theorem dX0_factsFrom_34 : decode cX0_factsFrom 34 = .ok (.if_icmp .ge 23, 3) := by decide +kernel
theorem dX0_factsFrom_37 : decode cX0_factsFrom 37 = .ok (.aload 4, 2) := by decide +kernel
theorem dX0_factsFrom_39 : decode cX0_factsFrom 39 = .ok (.iload 5, 2) := by decide +kernel
theorem dX0_factsFrom_41 : decode cX0_factsFrom 41 = .ok (.invokevirtual 83, 3) := by decide +kernel
theorem dX0_factsFrom_44 : decode cX0_factsFrom 44 = .ok (.iload_n 1, 1) := by decide +kernel
theorem dX0_factsFrom_45 : decode cX0_factsFrom 45 = .ok (.if_icmp .ne 6, 3) := by decide +kernel
theorem dX0_factsFrom_48 : decode cX0_factsFrom 48 = .ok (.iinc 2 1, 3) := by decide +kernel
theorem dX0_factsFrom_51 : decode cX0_factsFrom 51 = .ok (.iinc 5 1, 3) := by decide +kernel
theorem dX0_factsFrom_54 : decode cX0_factsFrom 54 = .ok (.goto (-32), 3) := by decide +kernel
theorem dX0_factsFrom_57 : decode cX0_factsFrom 57 = .ok (.iinc 3 1, 3) := by decide +kernel
theorem dX0_factsFrom_60 : decode cX0_factsFrom 60 = .ok (.goto (-56), 3) := by decide +kernel
theorem dX0_factsFrom_63 : decode cX0_factsFrom 63 = .ok (.iload_n 2, 1) := by decide +kernel
theorem dX0_factsFrom_64 : decode cX0_factsFrom 64 = .ok (.ireturn, 1) := by decide +kernel
theorem dX0_staleFactsFrom_0 : decode cX0_staleFactsFrom 0 = .ok (.iconst 0, 1) := by decide +kernel
theorem dX0_staleFactsFrom_1 : decode cX0_staleFactsFrom 1 = .ok (.istore_n 2, 1) := by decide +kernel
theorem dX0_staleFactsFrom_2 : decode cX0_staleFactsFrom 2 = .ok (.iconst 0, 1) := by decide +kernel
theorem dX0_staleFactsFrom_3 : decode cX0_staleFactsFrom 3 = .ok (.istore_n 3, 1) := by decide +kernel
theorem dX0_staleFactsFrom_4 : decode cX0_staleFactsFrom 4 = .ok (.iload_n 3, 1) := by decide +kernel
theorem dX0_staleFactsFrom_5 : decode cX0_staleFactsFrom 5 = .ok (.aload_n 0, 1) := by decide +kernel
theorem dX0_staleFactsFrom_6 : decode cX0_staleFactsFrom 6 = .ok (.getfield 35, 3) := by decide +kernel
theorem dX0_staleFactsFrom_9 : decode cX0_staleFactsFrom 9 = .ok (.if_icmp .ge 65, 3) := by decide +kernel
theorem dX0_staleFactsFrom_12 : decode cX0_staleFactsFrom 12 = .ok (.aload_n 0, 1) := by decide +kernel
theorem dX0_staleFactsFrom_13 : decode cX0_staleFactsFrom 13 = .ok (.iload_n 3, 1) := by decide +kernel
theorem dX0_staleFactsFrom_14 : decode cX0_staleFactsFrom 14 = .ok (.invokevirtual 44, 3) := by decide +kernel
theorem dX0_staleFactsFrom_17 : decode cX0_staleFactsFrom 17 = .ok (.astore 4, 2) := by decide +kernel
theorem dX0_staleFactsFrom_19 : decode cX0_staleFactsFrom 19 = .ok (.iconst 0, 1) := by decide +kernel
theorem dX0_staleFactsFrom_20 : decode cX0_staleFactsFrom 20 = .ok (.istore 5, 2) := by decide +kernel
theorem dX0_staleFactsFrom_22 : decode cX0_staleFactsFrom 22 = .ok (.aload 4, 2) := by decide +kernel
theorem dX0_staleFactsFrom_24 : decode cX0_staleFactsFrom 24 = .ok (.ifnull 44, 3) := by decide +kernel
theorem dX0_staleFactsFrom_27 : decode cX0_staleFactsFrom 27 = .ok (.iload 5, 2) := by decide +kernel
theorem dX0_staleFactsFrom_29 : decode cX0_staleFactsFrom 29 = .ok (.aload 4, 2) := by decide +kernel
theorem dX0_staleFactsFrom_31 : decode cX0_staleFactsFrom 31 = .ok (.invokevirtual 80, 3) := by decide +kernel
theorem dX0_staleFactsFrom_34 : decode cX0_staleFactsFrom 34 = .ok (.if_icmp .ge 34, 3) := by decide +kernel
theorem dX0_staleFactsFrom_37 : decode cX0_staleFactsFrom 37 = .ok (.aload 4, 2) := by decide +kernel
theorem dX0_staleFactsFrom_39 : decode cX0_staleFactsFrom 39 = .ok (.iload 5, 2) := by decide +kernel
theorem dX0_staleFactsFrom_41 : decode cX0_staleFactsFrom 41 = .ok (.invokevirtual 83, 3) := by decide +kernel
theorem dX0_staleFactsFrom_44 : decode cX0_staleFactsFrom 44 = .ok (.iload_n 1, 1) := by decide +kernel
theorem dX0_staleFactsFrom_45 : decode cX0_staleFactsFrom 45 = .ok (.if_icmp .ne 17, 3) := by decide +kernel
theorem dX0_staleFactsFrom_48 : decode cX0_staleFactsFrom 48 = .ok (.aload_n 0, 1) := by decide +kernel
theorem dX0_staleFactsFrom_49 : decode cX0_staleFactsFrom 49 = .ok (.aload 4, 2) := by decide +kernel
theorem dX0_staleFactsFrom_51 : decode cX0_staleFactsFrom 51 = .ok (.iload 5, 2) := by decide +kernel
theorem dX0_staleFactsFrom_53 : decode cX0_staleFactsFrom 53 = .ok (.invokevirtual 113, 3) := by decide +kernel
theorem dX0_staleFactsFrom_56 : decode cX0_staleFactsFrom 56 = .ok (.ifCond .eq 6, 3) := by decide +kernel
theorem dX0_staleFactsFrom_59 : decode cX0_staleFactsFrom 59 = .ok (.iinc 2 1, 3) := by decide +kernel
theorem dX0_staleFactsFrom_62 : decode cX0_staleFactsFrom 62 = .ok (.iinc 5 1, 3) := by decide +kernel
theorem dX0_staleFactsFrom_65 : decode cX0_staleFactsFrom 65 = .ok (.goto (-43), 3) := by decide +kernel
theorem dX0_staleFactsFrom_68 : decode cX0_staleFactsFrom 68 = .ok (.iinc 3 1, 3) := by decide +kernel
theorem dX0_staleFactsFrom_71 : decode cX0_staleFactsFrom 71 = .ok (.goto (-67), 3) := by decide +kernel
theorem dX0_staleFactsFrom_74 : decode cX0_staleFactsFrom 74 = .ok (.iload_n 2, 1) := by decide +kernel
theorem dX0_staleFactsFrom_75 : decode cX0_staleFactsFrom 75 = .ok (.ireturn, 1) := by decide +kernel
theorem dX0_linesFrom_0 : decode cX0_linesFrom 0 = .ok (.iconst 0, 1) := by decide +kernel
theorem dX0_linesFrom_1 : decode cX0_linesFrom 1 = .ok (.istore_n 2, 1) := by decide +kernel
theorem dX0_linesFrom_2 : decode cX0_linesFrom 2 = .ok (.iconst 0, 1) := by decide +kernel
theorem dX0_linesFrom_3 : decode cX0_linesFrom 3 = .ok (.istore_n 3, 1) := by decide +kernel
theorem dX0_linesFrom_4 : decode cX0_linesFrom 4 = .ok (.iload_n 3, 1) := by decide +kernel
theorem dX0_linesFrom_5 : decode cX0_linesFrom 5 = .ok (.aload_n 0, 1) := by decide +kernel
theorem dX0_linesFrom_6 : decode cX0_linesFrom 6 = .ok (.getfield 35, 3) := by decide +kernel
theorem dX0_linesFrom_9 : decode cX0_linesFrom 9 = .ok (.if_icmp .ge 61, 3) := by decide +kernel
theorem dX0_linesFrom_12 : decode cX0_linesFrom 12 = .ok (.aload_n 0, 1) := by decide +kernel
theorem dX0_linesFrom_13 : decode cX0_linesFrom 13 = .ok (.iload_n 3, 1) := by decide +kernel
theorem dX0_linesFrom_14 : decode cX0_linesFrom 14 = .ok (.invokevirtual 44, 3) := by decide +kernel
theorem dX0_linesFrom_17 : decode cX0_linesFrom 17 = .ok (.astore 4, 2) := by decide +kernel
theorem dX0_linesFrom_19 : decode cX0_linesFrom 19 = .ok (.iconst 0, 1) := by decide +kernel
theorem dX0_linesFrom_20 : decode cX0_linesFrom 20 = .ok (.istore 5, 2) := by decide +kernel
theorem dX0_linesFrom_22 : decode cX0_linesFrom 22 = .ok (.aload 4, 2) := by decide +kernel
theorem dX0_linesFrom_24 : decode cX0_linesFrom 24 = .ok (.ifnull 40, 3) := by decide +kernel
theorem dX0_linesFrom_27 : decode cX0_linesFrom 27 = .ok (.iload 5, 2) := by decide +kernel
theorem dX0_linesFrom_29 : decode cX0_linesFrom 29 = .ok (.aload 4, 2) := by decide +kernel
theorem dX0_linesFrom_31 : decode cX0_linesFrom 31 = .ok (.invokevirtual 80, 3) := by decide +kernel
theorem dX0_linesFrom_34 : decode cX0_linesFrom 34 = .ok (.if_icmp .ge 30, 3) := by decide +kernel
theorem dX0_linesFrom_37 : decode cX0_linesFrom 37 = .ok (.aload 4, 2) := by decide +kernel
theorem dX0_linesFrom_39 : decode cX0_linesFrom 39 = .ok (.iload 5, 2) := by decide +kernel
theorem dX0_linesFrom_41 : decode cX0_linesFrom 41 = .ok (.invokevirtual 83, 3) := by decide +kernel
theorem dX0_linesFrom_44 : decode cX0_linesFrom 44 = .ok (.iload_n 1, 1) := by decide +kernel
theorem dX0_linesFrom_45 : decode cX0_linesFrom 45 = .ok (.if_icmp .ne 13, 3) := by decide +kernel
theorem dX0_linesFrom_48 : decode cX0_linesFrom 48 = .ok (.iload_n 2, 1) := by decide +kernel
theorem dX0_linesFrom_49 : decode cX0_linesFrom 49 = .ok (.aload 4, 2) := by decide +kernel
theorem dX0_linesFrom_51 : decode cX0_linesFrom 51 = .ok (.iload 5, 2) := by decide +kernel
theorem dX0_linesFrom_53 : decode cX0_linesFrom 53 = .ok (.invokevirtual 99, 3) := by decide +kernel
theorem dX0_linesFrom_56 : decode cX0_linesFrom 56 = .ok (.iadd, 1) := by decide +kernel
theorem dX0_linesFrom_57 : decode cX0_linesFrom 57 = .ok (.istore_n 2, 1) := by decide +kernel
theorem dX0_linesFrom_58 : decode cX0_linesFrom 58 = .ok (.iinc 5 1, 3) := by decide +kernel
theorem dX0_linesFrom_61 : decode cX0_linesFrom 61 = .ok (.goto (-39), 3) := by decide +kernel
theorem dX0_linesFrom_64 : decode cX0_linesFrom 64 = .ok (.iinc 3 1, 3) := by decide +kernel
theorem dX0_linesFrom_67 : decode cX0_linesFrom 67 = .ok (.goto (-63), 3) := by decide +kernel
theorem dX0_linesFrom_70 : decode cX0_linesFrom 70 = .ok (.iload_n 2, 1) := by decide +kernel
theorem dX0_linesFrom_71 : decode cX0_linesFrom 71 = .ok (.ireturn, 1) := by decide +kernel
theorem dX0_urgencyOf_0 : decode cX0_urgencyOf 0 = .ok (.aload_n 1, 1) := by decide +kernel
theorem dX0_urgencyOf_1 : decode cX0_urgencyOf 1 = .ok (.invokevirtual 60, 3) := by decide +kernel
theorem dX0_urgencyOf_4 : decode cX0_urgencyOf 4 = .ok (.bipush 10, 2) := by decide +kernel
theorem dX0_urgencyOf_6 : decode cX0_urgencyOf 6 = .ok (.aload_n 1, 1) := by decide +kernel
theorem dX0_urgencyOf_7 : decode cX0_urgencyOf 7 = .ok (.invokevirtual 63, 3) := by decide +kernel
theorem dX0_urgencyOf_10 : decode cX0_urgencyOf 10 = .ok (.imul, 1) := by decide +kernel
theorem dX0_urgencyOf_11 : decode cX0_urgencyOf 11 = .ok (.iadd, 1) := by decide +kernel
theorem dX0_urgencyOf_12 : decode cX0_urgencyOf 12 = .ok (.iconst 5, 1) := by decide +kernel
theorem dX0_urgencyOf_13 : decode cX0_urgencyOf 13 = .ok (.aload_n 0, 1) := by decide +kernel
theorem dX0_urgencyOf_14 : decode cX0_urgencyOf 14 = .ok (.aload_n 1, 1) := by decide +kernel
theorem dX0_urgencyOf_15 : decode cX0_urgencyOf 15 = .ok (.aload_n 0, 1) := by decide +kernel
theorem dX0_urgencyOf_16 : decode cX0_urgencyOf 16 = .ok (.getfield 38, 3) := by decide +kernel
theorem dX0_urgencyOf_19 : decode cX0_urgencyOf 19 = .ok (.invokevirtual 109, 3) := by decide +kernel
theorem dX0_urgencyOf_22 : decode cX0_urgencyOf 22 = .ok (.imul, 1) := by decide +kernel
theorem dX0_urgencyOf_23 : decode cX0_urgencyOf 23 = .ok (.iadd, 1) := by decide +kernel
theorem dX0_urgencyOf_24 : decode cX0_urgencyOf 24 = .ok (.istore_n 2, 1) := by decide +kernel
theorem dX0_urgencyOf_25 : decode cX0_urgencyOf 25 = .ok (.aload_n 1, 1) := by decide +kernel
theorem dX0_urgencyOf_26 : decode cX0_urgencyOf 26 = .ok (.invokevirtual 80, 3) := by decide +kernel
theorem dX0_urgencyOf_29 : decode cX0_urgencyOf 29 = .ok (.ifCond .ne 10, 3) := by decide +kernel
theorem dX0_urgencyOf_32 : decode cX0_urgencyOf 32 = .ok (.iload_n 2, 1) := by decide +kernel
theorem dX0_urgencyOf_33 : decode cX0_urgencyOf 33 = .ok (.bipush 40, 2) := by decide +kernel
theorem dX0_urgencyOf_35 : decode cX0_urgencyOf 35 = .ok (.iadd, 1) := by decide +kernel
theorem dX0_urgencyOf_36 : decode cX0_urgencyOf 36 = .ok (.goto 4, 3) := by decide +kernel
theorem dX0_urgencyOf_39 : decode cX0_urgencyOf 39 = .ok (.iload_n 2, 1) := by decide +kernel
theorem dX0_urgencyOf_40 : decode cX0_urgencyOf 40 = .ok (.ireturn, 1) := by decide +kernel
theorem dX0_rankUrgencies_0 : decode cX0_rankUrgencies 0 = .ok (.aload_n 1, 1) := by decide +kernel
theorem dX0_rankUrgencies_1 : decode cX0_rankUrgencies 1 = .ok (.invokevirtual 117, 3) := by decide +kernel
theorem dX0_rankUrgencies_4 : decode cX0_rankUrgencies 4 = .ok (.iconst 0, 1) := by decide +kernel
theorem dX0_rankUrgencies_5 : decode cX0_rankUrgencies 5 = .ok (.istore_n 2, 1) := by decide +kernel
theorem dX0_rankUrgencies_6 : decode cX0_rankUrgencies 6 = .ok (.iload_n 2, 1) := by decide +kernel
theorem dX0_rankUrgencies_7 : decode cX0_rankUrgencies 7 = .ok (.aload_n 0, 1) := by decide +kernel
theorem dX0_rankUrgencies_8 : decode cX0_rankUrgencies 8 = .ok (.getfield 35, 3) := by decide +kernel
theorem dX0_rankUrgencies_11 : decode cX0_rankUrgencies 11 = .ok (.if_icmp .ge 37, 3) := by decide +kernel
theorem dX0_rankUrgencies_14 : decode cX0_rankUrgencies 14 = .ok (.aload_n 0, 1) := by decide +kernel
theorem dX0_rankUrgencies_15 : decode cX0_rankUrgencies 15 = .ok (.iload_n 2, 1) := by decide +kernel
theorem dX0_rankUrgencies_16 : decode cX0_rankUrgencies 16 = .ok (.invokevirtual 44, 3) := by decide +kernel
theorem dX0_rankUrgencies_19 : decode cX0_rankUrgencies 19 = .ok (.astore_n 3, 1) := by decide +kernel
theorem dX0_rankUrgencies_20 : decode cX0_rankUrgencies 20 = .ok (.aload_n 3, 1) := by decide +kernel
theorem dX0_rankUrgencies_21 : decode cX0_rankUrgencies 21 = .ok (.ifnull 21, 3) := by decide +kernel
theorem dX0_rankUrgencies_24 : decode cX0_rankUrgencies 24 = .ok (.aload_n 3, 1) := by decide +kernel
theorem dX0_rankUrgencies_25 : decode cX0_rankUrgencies 25 = .ok (.iconst 0, 1) := by decide +kernel
theorem dX0_rankUrgencies_26 : decode cX0_rankUrgencies 26 = .ok (.invokevirtual 77, 3) := by decide +kernel
theorem dX0_rankUrgencies_29 : decode cX0_rankUrgencies 29 = .ok (.ifCond .eq 13, 3) := by decide +kernel
theorem dX0_rankUrgencies_32 : decode cX0_rankUrgencies 32 = .ok (.aload_n 1, 1) := by decide +kernel
theorem dX0_rankUrgencies_33 : decode cX0_rankUrgencies 33 = .ok (.iload_n 2, 1) := by decide +kernel
theorem dX0_rankUrgencies_34 : decode cX0_rankUrgencies 34 = .ok (.aload_n 0, 1) := by decide +kernel
theorem dX0_rankUrgencies_35 : decode cX0_rankUrgencies 35 = .ok (.aload_n 3, 1) := by decide +kernel
theorem dX0_rankUrgencies_36 : decode cX0_rankUrgencies 36 = .ok (.invokevirtual 122, 3) := by decide +kernel
theorem dX0_rankUrgencies_39 : decode cX0_rankUrgencies 39 = .ok (.invokevirtual 126, 3) := by decide +kernel
theorem dX0_rankUrgencies_42 : decode cX0_rankUrgencies 42 = .ok (.iinc 2 1, 3) := by decide +kernel
theorem dX0_rankUrgencies_45 : decode cX0_rankUrgencies 45 = .ok (.goto (-39), 3) := by decide +kernel
theorem dX0_rankUrgencies_48 : decode cX0_rankUrgencies 48 = .ok (.return_, 1) := by decide +kernel
theorem dX0_firstToCheck_0 : decode cX0_firstToCheck 0 = .ok (.iconst 0, 1) := by decide +kernel
theorem dX0_firstToCheck_1 : decode cX0_firstToCheck 1 = .ok (.istore_n 2, 1) := by decide +kernel
theorem dX0_firstToCheck_2 : decode cX0_firstToCheck 2 = .ok (.iload_n 2, 1) := by decide +kernel
theorem dX0_firstToCheck_3 : decode cX0_firstToCheck 3 = .ok (.aload_n 1, 1) := by decide +kernel
theorem dX0_firstToCheck_4 : decode cX0_firstToCheck 4 = .ok (.invokevirtual 80, 3) := by decide +kernel
theorem dX0_firstToCheck_7 : decode cX0_firstToCheck 7 = .ok (.if_icmp .ge 32, 3) := by decide +kernel
theorem dX0_firstToCheck_10 : decode cX0_firstToCheck 10 = .ok (.aload_n 1, 1) := by decide +kernel
theorem dX0_firstToCheck_11 : decode cX0_firstToCheck 11 = .ok (.iload_n 2, 1) := by decide +kernel
theorem dX0_firstToCheck_12 : decode cX0_firstToCheck 12 = .ok (.invokevirtual 91, 3) := by decide +kernel
theorem dX0_firstToCheck_15 : decode cX0_firstToCheck 15 = .ok (.aload_n 0, 1) := by decide +kernel
theorem dX0_firstToCheck_16 : decode cX0_firstToCheck 16 = .ok (.getfield 38, 3) := by decide +kernel
theorem dX0_firstToCheck_19 : decode cX0_firstToCheck 19 = .ok (.if_icmp .eq 14, 3) := by decide +kernel
theorem dX0_firstToCheck_22 : decode cX0_firstToCheck 22 = .ok (.aload_n 0, 1) := by decide +kernel
theorem dX0_firstToCheck_23 : decode cX0_firstToCheck 23 = .ok (.aload_n 1, 1) := by decide +kernel
theorem dX0_firstToCheck_24 : decode cX0_firstToCheck 24 = .ok (.iload_n 2, 1) := by decide +kernel
theorem dX0_firstToCheck_25 : decode cX0_firstToCheck 25 = .ok (.invokevirtual 113, 3) := by decide +kernel
theorem dX0_firstToCheck_28 : decode cX0_firstToCheck 28 = .ok (.ifCond .eq 5, 3) := by decide +kernel
theorem dX0_firstToCheck_31 : decode cX0_firstToCheck 31 = .ok (.iload_n 2, 1) := by decide +kernel
theorem dX0_firstToCheck_32 : decode cX0_firstToCheck 32 = .ok (.ireturn, 1) := by decide +kernel
theorem dX0_firstToCheck_33 : decode cX0_firstToCheck 33 = .ok (.iinc 2 1, 3) := by decide +kernel
theorem dX0_firstToCheck_36 : decode cX0_firstToCheck 36 = .ok (.goto (-34), 3) := by decide +kernel
theorem dX0_firstToCheck_39 : decode cX0_firstToCheck 39 = .ok (.bipush (-5), 2) := by decide +kernel
theorem dX0_firstToCheck_41 : decode cX0_firstToCheck 41 = .ok (.ireturn, 1) := by decide +kernel
theorem dX0_mostUrgentToCheck_0 : decode cX0_mostUrgentToCheck 0 = .ok (.aload_n 0, 1) := by decide +kernel
theorem dX0_mostUrgentToCheck_1 : decode cX0_mostUrgentToCheck 1 = .ok (.getfield 25, 3) := by decide +kernel
theorem dX0_mostUrgentToCheck_4 : decode cX0_mostUrgentToCheck 4 = .ok (.iconst 1, 1) := by decide +kernel
theorem dX0_mostUrgentToCheck_5 : decode cX0_mostUrgentToCheck 5 = .ok (.if_icmp .ge 5, 3) := by decide +kernel
theorem dX0_mostUrgentToCheck_8 : decode cX0_mostUrgentToCheck 8 = .ok (.aconst_null, 1) := by decide +kernel
theorem dX0_mostUrgentToCheck_9 : decode cX0_mostUrgentToCheck 9 = .ok (.areturn, 1) := by decide +kernel
theorem dX0_mostUrgentToCheck_10 : decode cX0_mostUrgentToCheck 10 = .ok (.aconst_null, 1) := by decide +kernel
theorem dX0_mostUrgentToCheck_11 : decode cX0_mostUrgentToCheck 11 = .ok (.astore_n 1, 1) := by decide +kernel
theorem dX0_mostUrgentToCheck_12 : decode cX0_mostUrgentToCheck 12 = .ok (.iconst 0, 1) := by decide +kernel
theorem dX0_mostUrgentToCheck_13 : decode cX0_mostUrgentToCheck 13 = .ok (.istore_n 2, 1) := by decide +kernel
theorem dX0_mostUrgentToCheck_14 : decode cX0_mostUrgentToCheck 14 = .ok (.iconst 0, 1) := by decide +kernel
theorem dX0_mostUrgentToCheck_15 : decode cX0_mostUrgentToCheck 15 = .ok (.istore_n 3, 1) := by decide +kernel
theorem dX0_mostUrgentToCheck_16 : decode cX0_mostUrgentToCheck 16 = .ok (.iload_n 3, 1) := by decide +kernel
theorem dX0_mostUrgentToCheck_17 : decode cX0_mostUrgentToCheck 17 = .ok (.aload_n 0, 1) := by decide +kernel
theorem dX0_mostUrgentToCheck_18 : decode cX0_mostUrgentToCheck 18 = .ok (.getfield 35, 3) := by decide +kernel
theorem dX0_mostUrgentToCheck_21 : decode cX0_mostUrgentToCheck 21 = .ok (.if_icmp .ge 65, 3) := by decide +kernel
theorem dX0_mostUrgentToCheck_24 : decode cX0_mostUrgentToCheck 24 = .ok (.aload_n 0, 1) := by decide +kernel
theorem dX0_mostUrgentToCheck_25 : decode cX0_mostUrgentToCheck 25 = .ok (.iload_n 3, 1) := by decide +kernel
theorem dX0_mostUrgentToCheck_26 : decode cX0_mostUrgentToCheck 26 = .ok (.invokevirtual 44, 3) := by decide +kernel
theorem dX0_mostUrgentToCheck_29 : decode cX0_mostUrgentToCheck 29 = .ok (.astore 4, 2) := by decide +kernel
theorem dX0_mostUrgentToCheck_31 : decode cX0_mostUrgentToCheck 31 = .ok (.aload 4, 2) := by decide +kernel
theorem dX0_mostUrgentToCheck_33 : decode cX0_mostUrgentToCheck 33 = .ok (.ifnull 47, 3) := by decide +kernel
theorem dX0_mostUrgentToCheck_36 : decode cX0_mostUrgentToCheck 36 = .ok (.aload 4, 2) := by decide +kernel
theorem dX0_mostUrgentToCheck_38 : decode cX0_mostUrgentToCheck 38 = .ok (.iconst 0, 1) := by decide +kernel
theorem dX0_mostUrgentToCheck_39 : decode cX0_mostUrgentToCheck 39 = .ok (.invokevirtual 77, 3) := by decide +kernel
theorem dX0_mostUrgentToCheck_42 : decode cX0_mostUrgentToCheck 42 = .ok (.ifCond .eq 38, 3) := by decide +kernel
theorem dX0_mostUrgentToCheck_45 : decode cX0_mostUrgentToCheck 45 = .ok (.aload_n 0, 1) := by decide +kernel
theorem dX0_mostUrgentToCheck_46 : decode cX0_mostUrgentToCheck 46 = .ok (.aload 4, 2) := by decide +kernel
theorem dX0_mostUrgentToCheck_48 : decode cX0_mostUrgentToCheck 48 = .ok (.invokevirtual 129, 3) := by decide +kernel
theorem dX0_mostUrgentToCheck_51 : decode cX0_mostUrgentToCheck 51 = .ok (.bipush (-5), 2) := by decide +kernel
theorem dX0_mostUrgentToCheck_53 : decode cX0_mostUrgentToCheck 53 = .ok (.if_icmp .eq 27, 3) := by decide +kernel
theorem dX0_mostUrgentToCheck_56 : decode cX0_mostUrgentToCheck 56 = .ok (.aload_n 0, 1) := by decide +kernel
theorem dX0_mostUrgentToCheck_57 : decode cX0_mostUrgentToCheck 57 = .ok (.aload 4, 2) := by decide +kernel
theorem dX0_mostUrgentToCheck_59 : decode cX0_mostUrgentToCheck 59 = .ok (.invokevirtual 122, 3) := by decide +kernel
theorem dX0_mostUrgentToCheck_62 : decode cX0_mostUrgentToCheck 62 = .ok (.istore 5, 2) := by decide +kernel
theorem dX0_mostUrgentToCheck_64 : decode cX0_mostUrgentToCheck 64 = .ok (.aload_n 1, 1) := by decide +kernel
theorem dX0_mostUrgentToCheck_65 : decode cX0_mostUrgentToCheck 65 = .ok (.ifnull 9, 3) := by decide +kernel
theorem dX0_mostUrgentToCheck_68 : decode cX0_mostUrgentToCheck 68 = .ok (.iload 5, 2) := by decide +kernel
theorem dX0_mostUrgentToCheck_70 : decode cX0_mostUrgentToCheck 70 = .ok (.iload_n 2, 1) := by decide +kernel
theorem dX0_mostUrgentToCheck_71 : decode cX0_mostUrgentToCheck 71 = .ok (.if_icmp .le 9, 3) := by decide +kernel
theorem dX0_mostUrgentToCheck_74 : decode cX0_mostUrgentToCheck 74 = .ok (.aload 4, 2) := by decide +kernel
theorem dX0_mostUrgentToCheck_76 : decode cX0_mostUrgentToCheck 76 = .ok (.astore_n 1, 1) := by decide +kernel
theorem dX0_mostUrgentToCheck_77 : decode cX0_mostUrgentToCheck 77 = .ok (.iload 5, 2) := by decide +kernel
theorem dX0_mostUrgentToCheck_79 : decode cX0_mostUrgentToCheck 79 = .ok (.istore_n 2, 1) := by decide +kernel
theorem dX0_mostUrgentToCheck_80 : decode cX0_mostUrgentToCheck 80 = .ok (.iinc 3 1, 3) := by decide +kernel
theorem dX0_mostUrgentToCheck_83 : decode cX0_mostUrgentToCheck 83 = .ok (.goto (-67), 3) := by decide +kernel
theorem dX0_mostUrgentToCheck_86 : decode cX0_mostUrgentToCheck 86 = .ok (.aload_n 1, 1) := by decide +kernel
theorem dX0_mostUrgentToCheck_87 : decode cX0_mostUrgentToCheck 87 = .ok (.areturn, 1) := by decide +kernel
theorem dX0_checkToday_0 : decode cX0_checkToday 0 = .ok (.aload_n 1, 1) := by decide +kernel
theorem dX0_checkToday_1 : decode cX0_checkToday 1 = .ok (.iload_n 2, 1) := by decide +kernel
theorem dX0_checkToday_2 : decode cX0_checkToday 2 = .ok (.aload_n 0, 1) := by decide +kernel
theorem dX0_checkToday_3 : decode cX0_checkToday 3 = .ok (.getfield 38, 3) := by decide +kernel
theorem dX0_checkToday_6 : decode cX0_checkToday 6 = .ok (.invokevirtual 132, 3) := by decide +kernel
theorem dX0_checkToday_9 : decode cX0_checkToday 9 = .ok (.aload_n 0, 1) := by decide +kernel
theorem dX0_checkToday_10 : decode cX0_checkToday 10 = .ok (.iconst 1, 1) := by decide +kernel
theorem dX0_checkToday_11 : decode cX0_checkToday 11 = .ok (.invokevirtual 135, 3) := by decide +kernel
theorem dX0_checkToday_14 : decode cX0_checkToday 14 = .ok (.return_, 1) := by decide +kernel
theorem dX0_couldPrint_0 : decode cX0_couldPrint 0 = .ok (.aload_n 1, 1) := by decide +kernel
theorem dX0_couldPrint_1 : decode cX0_couldPrint 1 = .ok (.invokevirtual 139, 3) := by decide +kernel
theorem dX0_couldPrint_4 : decode cX0_couldPrint 4 = .ok (.aload_n 0, 1) := by decide +kernel
theorem dX0_couldPrint_5 : decode cX0_couldPrint 5 = .ok (.iconst 3, 1) := by decide +kernel
theorem dX0_couldPrint_6 : decode cX0_couldPrint 6 = .ok (.invokevirtual 102, 3) := by decide +kernel
theorem dX0_couldPrint_9 : decode cX0_couldPrint 9 = .ok (.if_icmp .lt 19, 3) := by decide +kernel
theorem dX0_couldPrint_12 : decode cX0_couldPrint 12 = .ok (.aload_n 0, 1) := by decide +kernel
theorem dX0_couldPrint_13 : decode cX0_couldPrint 13 = .ok (.aload_n 1, 1) := by decide +kernel
theorem dX0_couldPrint_14 : decode cX0_couldPrint 14 = .ok (.aload_n 0, 1) := by decide +kernel
theorem dX0_couldPrint_15 : decode cX0_couldPrint 15 = .ok (.getfield 38, 3) := by decide +kernel
theorem dX0_couldPrint_18 : decode cX0_couldPrint 18 = .ok (.invokevirtual 109, 3) := by decide +kernel
theorem dX0_couldPrint_21 : decode cX0_couldPrint 21 = .ok (.ifCond .ne 7, 3) := by decide +kernel
theorem dX0_couldPrint_24 : decode cX0_couldPrint 24 = .ok (.iconst 1, 1) := by decide +kernel
theorem dX0_couldPrint_25 : decode cX0_couldPrint 25 = .ok (.goto 4, 3) := by decide +kernel
theorem dX0_couldPrint_28 : decode cX0_couldPrint 28 = .ok (.iconst 0, 1) := by decide +kernel
theorem dX0_couldPrint_29 : decode cX0_couldPrint 29 = .ok (.ireturn, 1) := by decide +kernel
theorem dX0_markPrinted_0 : decode cX0_markPrinted 0 = .ok (.aload_n 0, 1) := by decide +kernel
theorem dX0_markPrinted_1 : decode cX0_markPrinted 1 = .ok (.iload_n 1, 1) := by decide +kernel
theorem dX0_markPrinted_2 : decode cX0_markPrinted 2 = .ok (.invokevirtual 44, 3) := by decide +kernel
theorem dX0_markPrinted_5 : decode cX0_markPrinted 5 = .ok (.astore_n 2, 1) := by decide +kernel
theorem dX0_markPrinted_6 : decode cX0_markPrinted 6 = .ok (.aload_n 2, 1) := by decide +kernel
theorem dX0_markPrinted_7 : decode cX0_markPrinted 7 = .ok (.ifnull 11, 3) := by decide +kernel
theorem dX0_markPrinted_10 : decode cX0_markPrinted 10 = .ok (.aload_n 2, 1) := by decide +kernel
theorem dX0_markPrinted_11 : decode cX0_markPrinted 11 = .ok (.aload_n 0, 1) := by decide +kernel
theorem dX0_markPrinted_12 : decode cX0_markPrinted 12 = .ok (.getfield 38, 3) := by decide +kernel
theorem dX0_markPrinted_15 : decode cX0_markPrinted 15 = .ok (.invokevirtual 142, 3) := by decide +kernel
theorem dX0_markPrinted_18 : decode cX0_markPrinted 18 = .ok (.return_, 1) := by decide +kernel
theorem dX0_takeBackOldDeaths_0 : decode cX0_takeBackOldDeaths 0 = .ok (.iconst 0, 1) := by decide +kernel
theorem dX0_takeBackOldDeaths_1 : decode cX0_takeBackOldDeaths 1 = .ok (.istore_n 1, 1) := by decide +kernel
theorem dX0_takeBackOldDeaths_2 : decode cX0_takeBackOldDeaths 2 = .ok (.iload_n 1, 1) := by decide +kernel
theorem dX0_takeBackOldDeaths_3 : decode cX0_takeBackOldDeaths 3 = .ok (.aload_n 0, 1) := by decide +kernel
theorem dX0_takeBackOldDeaths_4 : decode cX0_takeBackOldDeaths 4 = .ok (.getfield 35, 3) := by decide +kernel
theorem dX0_takeBackOldDeaths_7 : decode cX0_takeBackOldDeaths 7 = .ok (.if_icmp .ge 50, 3) := by decide +kernel
theorem dX0_takeBackOldDeaths_10 : decode cX0_takeBackOldDeaths 10 = .ok (.aload_n 0, 1) := by decide +kernel
theorem dX0_takeBackOldDeaths_11 : decode cX0_takeBackOldDeaths 11 = .ok (.iload_n 1, 1) := by decide +kernel
theorem dX0_takeBackOldDeaths_12 : decode cX0_takeBackOldDeaths 12 = .ok (.invokevirtual 44, 3) := by decide +kernel
theorem dX0_takeBackOldDeaths_15 : decode cX0_takeBackOldDeaths 15 = .ok (.astore_n 2, 1) := by decide +kernel
theorem dX0_takeBackOldDeaths_16 : decode cX0_takeBackOldDeaths 16 = .ok (.aload_n 2, 1) := by decide +kernel
theorem dX0_takeBackOldDeaths_17 : decode cX0_takeBackOldDeaths 17 = .ok (.ifnull 34, 3) := by decide +kernel
theorem dX0_takeBackOldDeaths_20 : decode cX0_takeBackOldDeaths 20 = .ok (.aload_n 2, 1) := by decide +kernel
theorem dX0_takeBackOldDeaths_21 : decode cX0_takeBackOldDeaths 21 = .ok (.iconst 1, 1) := by decide +kernel
theorem dX0_takeBackOldDeaths_22 : decode cX0_takeBackOldDeaths 22 = .ok (.invokevirtual 77, 3) := by decide +kernel
theorem dX0_takeBackOldDeaths_25 : decode cX0_takeBackOldDeaths 25 = .ok (.ifCond .eq 26, 3) := by decide +kernel
theorem dX0_takeBackOldDeaths_28 : decode cX0_takeBackOldDeaths 28 = .ok (.aload_n 0, 1) := by decide +kernel
theorem dX0_takeBackOldDeaths_29 : decode cX0_takeBackOldDeaths 29 = .ok (.getfield 38, 3) := by decide +kernel
theorem dX0_takeBackOldDeaths_32 : decode cX0_takeBackOldDeaths 32 = .ok (.iconst 1, 1) := by decide +kernel
theorem dX0_takeBackOldDeaths_33 : decode cX0_takeBackOldDeaths 33 = .ok (.iadd, 1) := by decide +kernel
theorem dX0_takeBackOldDeaths_34 : decode cX0_takeBackOldDeaths 34 = .ok (.aload_n 2, 1) := by decide +kernel
theorem dX0_takeBackOldDeaths_35 : decode cX0_takeBackOldDeaths 35 = .ok (.invokevirtual 145, 3) := by decide +kernel
theorem dX0_takeBackOldDeaths_38 : decode cX0_takeBackOldDeaths 38 = .ok (.aload_n 0, 1) := by decide +kernel
theorem dX0_takeBackOldDeaths_39 : decode cX0_takeBackOldDeaths 39 = .ok (.iconst 4, 1) := by decide +kernel
theorem dX0_takeBackOldDeaths_40 : decode cX0_takeBackOldDeaths 40 = .ok (.invokevirtual 102, 3) := by decide +kernel
theorem dX0_takeBackOldDeaths_43 : decode cX0_takeBackOldDeaths 43 = .ok (.iadd, 1) := by decide +kernel
theorem dX0_takeBackOldDeaths_44 : decode cX0_takeBackOldDeaths 44 = .ok (.if_icmp .lt 7, 3) := by decide +kernel
theorem dX0_takeBackOldDeaths_47 : decode cX0_takeBackOldDeaths 47 = .ok (.aload_n 2, 1) := by decide +kernel
theorem dX0_takeBackOldDeaths_48 : decode cX0_takeBackOldDeaths 48 = .ok (.invokevirtual 148, 3) := by decide +kernel
theorem dX0_takeBackOldDeaths_51 : decode cX0_takeBackOldDeaths 51 = .ok (.iinc 1 1, 3) := by decide +kernel
theorem dX0_takeBackOldDeaths_54 : decode cX0_takeBackOldDeaths 54 = .ok (.goto (-52), 3) := by decide +kernel
theorem dX0_takeBackOldDeaths_57 : decode cX0_takeBackOldDeaths 57 = .ok (.return_, 1) := by decide +kernel
theorem dX0_beginNextDay_0 : decode cX0_beginNextDay 0 = .ok (.aload_n 0, 1) := by decide +kernel
theorem dX0_beginNextDay_1 : decode cX0_beginNextDay 1 = .ok (.dup, 1) := by decide +kernel
theorem dX0_beginNextDay_2 : decode cX0_beginNextDay 2 = .ok (.getfield 38, 3) := by decide +kernel
theorem dX0_beginNextDay_5 : decode cX0_beginNextDay 5 = .ok (.iconst 1, 1) := by decide +kernel
theorem dX0_beginNextDay_6 : decode cX0_beginNextDay 6 = .ok (.iadd, 1) := by decide +kernel
theorem dX0_beginNextDay_7 : decode cX0_beginNextDay 7 = .ok (.putfield 38, 3) := by decide +kernel
theorem dX0_beginNextDay_10 : decode cX0_beginNextDay 10 = .ok (.aload_n 0, 1) := by decide +kernel
theorem dX0_beginNextDay_11 : decode cX0_beginNextDay 11 = .ok (.aload_n 0, 1) := by decide +kernel
theorem dX0_beginNextDay_12 : decode cX0_beginNextDay 12 = .ok (.iconst 0, 1) := by decide +kernel
theorem dX0_beginNextDay_13 : decode cX0_beginNextDay 13 = .ok (.invokevirtual 102, 3) := by decide +kernel
theorem dX0_beginNextDay_16 : decode cX0_beginNextDay 16 = .ok (.putfield 25, 3) := by decide +kernel
theorem dX0_beginNextDay_19 : decode cX0_beginNextDay 19 = .ok (.return_, 1) := by decide +kernel
theorem dX1_init_0 : decode cX1_init 0 = .ok (.aload_n 0, 1) := by decide +kernel
theorem dX1_init_1 : decode cX1_init 1 = .ok (.invokespecial 3, 3) := by decide +kernel
theorem dX1_init_4 : decode cX1_init 4 = .ok (.aload_n 0, 1) := by decide +kernel
theorem dX1_init_5 : decode cX1_init 5 = .ok (.iconst 4, 1) := by decide +kernel
theorem dX1_init_6 : decode cX1_init 6 = .ok (.anewarray 9, 3) := by decide +kernel
theorem dX1_init_9 : decode cX1_init 9 = .ok (.putfield 11, 3) := by decide +kernel
theorem dX1_init_12 : decode cX1_init 12 = .ok (.iconst 0, 1) := by decide +kernel
theorem dX1_init_13 : decode cX1_init 13 = .ok (.istore_n 1, 1) := by decide +kernel
theorem dX1_init_14 : decode cX1_init 14 = .ok (.iload_n 1, 1) := by decide +kernel
theorem dX1_init_15 : decode cX1_init 15 = .ok (.iconst 4, 1) := by decide +kernel
theorem dX1_init_16 : decode cX1_init 16 = .ok (.if_icmp .ge 22, 3) := by decide +kernel
theorem dX1_init_19 : decode cX1_init 19 = .ok (.aload_n 0, 1) := by decide +kernel
theorem dX1_init_20 : decode cX1_init 20 = .ok (.getfield 11, 3) := by decide +kernel
theorem dX1_init_23 : decode cX1_init 23 = .ok (.iload_n 1, 1) := by decide +kernel
theorem dX1_init_24 : decode cX1_init 24 = .ok (.new 9, 3) := by decide +kernel
theorem dX1_init_27 : decode cX1_init 27 = .ok (.dup, 1) := by decide +kernel
theorem dX1_init_28 : decode cX1_init 28 = .ok (.invokespecial 17, 3) := by decide +kernel
theorem dX1_init_31 : decode cX1_init 31 = .ok (.aastore, 1) := by decide +kernel
theorem dX1_init_32 : decode cX1_init 32 = .ok (.iinc 1 1, 3) := by decide +kernel
theorem dX1_init_35 : decode cX1_init 35 = .ok (.goto (-21), 3) := by decide +kernel
theorem dX1_init_38 : decode cX1_init 38 = .ok (.return_, 1) := by decide +kernel
theorem dX1_size_0 : decode cX1_size 0 = .ok (.aload_n 0, 1) := by decide +kernel
theorem dX1_size_1 : decode cX1_size 1 = .ok (.getfield 18, 3) := by decide +kernel
theorem dX1_size_4 : decode cX1_size 4 = .ok (.ireturn, 1) := by decide +kernel
theorem dX1_remember_0 : decode cX1_remember 0 = .ok (.aload_n 0, 1) := by decide +kernel
theorem dX1_remember_1 : decode cX1_remember 1 = .ok (.getfield 18, 3) := by decide +kernel
theorem dX1_remember_4 : decode cX1_remember 4 = .ok (.iconst 4, 1) := by decide +kernel
theorem dX1_remember_5 : decode cX1_remember 5 = .ok (.if_icmp .lt 20, 3) := by decide +kernel
theorem dX1_remember_8 : decode cX1_remember 8 = .ok (.aload_n 0, 1) := by decide +kernel
theorem dX1_remember_9 : decode cX1_remember 9 = .ok (.aload_n 0, 1) := by decide +kernel
theorem dX1_remember_10 : decode cX1_remember 10 = .ok (.getfield 22, 3) := by decide +kernel
theorem dX1_remember_13 : decode cX1_remember 13 = .ok (.iconst 1, 1) := by decide +kernel
theorem dX1_remember_14 : decode cX1_remember 14 = .ok (.iadd, 1) := by decide +kernel
theorem dX1_remember_15 : decode cX1_remember 15 = .ok (.iconst 4, 1) := by decide +kernel
theorem dX1_remember_16 : decode cX1_remember 16 = .ok (.irem, 1) := by decide +kernel
theorem dX1_remember_17 : decode cX1_remember 17 = .ok (.putfield 22, 3) := by decide +kernel
theorem dX1_remember_20 : decode cX1_remember 20 = .ok (.aload_n 0, 1) := by decide +kernel
theorem dX1_remember_21 : decode cX1_remember 21 = .ok (.iconst 3, 1) := by decide +kernel
theorem dX1_remember_22 : decode cX1_remember 22 = .ok (.putfield 18, 3) := by decide +kernel
theorem dX1_remember_25 : decode cX1_remember 25 = .ok (.aload_n 0, 1) := by decide +kernel
theorem dX1_remember_26 : decode cX1_remember 26 = .ok (.aload_n 0, 1) := by decide +kernel
theorem dX1_remember_27 : decode cX1_remember 27 = .ok (.getfield 18, 3) := by decide +kernel
theorem dX1_remember_30 : decode cX1_remember 30 = .ok (.invokevirtual 25, 3) := by decide +kernel
theorem dX1_remember_33 : decode cX1_remember 33 = .ok (.astore_n 2, 1) := by decide +kernel
theorem dX1_remember_34 : decode cX1_remember 34 = .ok (.aload_n 2, 1) := by decide +kernel
theorem dX1_remember_35 : decode cX1_remember 35 = .ok (.ifnull 18, 3) := by decide +kernel
theorem dX1_remember_38 : decode cX1_remember 38 = .ok (.aload_n 2, 1) := by decide +kernel
theorem dX1_remember_39 : decode cX1_remember 39 = .ok (.aload_n 1, 1) := by decide +kernel
theorem dX1_remember_40 : decode cX1_remember 40 = .ok (.invokevirtual 29, 3) := by decide +kernel
theorem dX1_remember_43 : decode cX1_remember 43 = .ok (.aload_n 0, 1) := by decide +kernel
theorem dX1_remember_44 : decode cX1_remember 44 = .ok (.dup, 1) := by decide +kernel
theorem dX1_remember_45 : decode cX1_remember 45 = .ok (.getfield 18, 3) := by decide +kernel
theorem dX1_remember_48 : decode cX1_remember 48 = .ok (.iconst 1, 1) := by decide +kernel
theorem dX1_remember_49 : decode cX1_remember 49 = .ok (.iadd, 1) := by decide +kernel
theorem dX1_remember_50 : decode cX1_remember 50 = .ok (.putfield 18, 3) := by decide +kernel
theorem dX1_remember_53 : decode cX1_remember 53 = .ok (.return_, 1) := by decide +kernel
theorem dX1_takeLatest_0 : decode cX1_takeLatest 0 = .ok (.aload_n 0, 1) := by decide +kernel
theorem dX1_takeLatest_1 : decode cX1_takeLatest 1 = .ok (.aload_n 0, 1) := by decide +kernel
theorem dX1_takeLatest_2 : decode cX1_takeLatest 2 = .ok (.getfield 18, 3) := by decide +kernel
theorem dX1_takeLatest_5 : decode cX1_takeLatest 5 = .ok (.iconst 1, 1) := by decide +kernel
theorem dX1_takeLatest_6 : decode cX1_takeLatest 6 = .ok (.isub, 1) := by decide +kernel
theorem dX1_takeLatest_7 : decode cX1_takeLatest 7 = .ok (.invokevirtual 25, 3) := by decide +kernel
theorem dX1_takeLatest_10 : decode cX1_takeLatest 10 = .ok (.astore_n 2, 1) := by decide +kernel
theorem dX1_takeLatest_11 : decode cX1_takeLatest 11 = .ok (.aload_n 2, 1) := by decide +kernel
theorem dX1_takeLatest_12 : decode cX1_takeLatest 12 = .ok (.ifnull 18, 3) := by decide +kernel
theorem dX1_takeLatest_15 : decode cX1_takeLatest 15 = .ok (.aload_n 1, 1) := by decide +kernel
theorem dX1_takeLatest_16 : decode cX1_takeLatest 16 = .ok (.aload_n 2, 1) := by decide +kernel
theorem dX1_takeLatest_17 : decode cX1_takeLatest 17 = .ok (.invokevirtual 29, 3) := by decide +kernel
theorem dX1_takeLatest_20 : decode cX1_takeLatest 20 = .ok (.aload_n 0, 1) := by decide +kernel
theorem dX1_takeLatest_21 : decode cX1_takeLatest 21 = .ok (.dup, 1) := by decide +kernel
theorem dX1_takeLatest_22 : decode cX1_takeLatest 22 = .ok (.getfield 18, 3) := by decide +kernel
theorem dX1_takeLatest_25 : decode cX1_takeLatest 25 = .ok (.iconst 1, 1) := by decide +kernel
theorem dX1_takeLatest_26 : decode cX1_takeLatest 26 = .ok (.isub, 1) := by decide +kernel
theorem dX1_takeLatest_27 : decode cX1_takeLatest 27 = .ok (.putfield 18, 3) := by decide +kernel
theorem dX1_takeLatest_30 : decode cX1_takeLatest 30 = .ok (.return_, 1) := by decide +kernel
theorem dX1_stateAt_0 : decode cX1_stateAt 0 = .ok (.aload_n 0, 1) := by decide +kernel
theorem dX1_stateAt_1 : decode cX1_stateAt 1 = .ok (.getfield 22, 3) := by decide +kernel
theorem dX1_stateAt_4 : decode cX1_stateAt 4 = .ok (.iload_n 1, 1) := by decide +kernel
theorem dX1_stateAt_5 : decode cX1_stateAt 5 = .ok (.iadd, 1) := by decide +kernel
theorem dX1_stateAt_6 : decode cX1_stateAt 6 = .ok (.istore_n 2, 1) := by decide +kernel
theorem dX1_stateAt_7 : decode cX1_stateAt 7 = .ok (.iload_n 1, 1) := by decide +kernel
theorem dX1_stateAt_8 : decode cX1_stateAt 8 = .ok (.ifCond .lt 7, 3) := by decide +kernel
theorem dX1_stateAt_11 : decode cX1_stateAt 11 = .ok (.iload_n 2, 1) := by decide +kernel
theorem dX1_stateAt_12 : decode cX1_stateAt 12 = .ok (.ifCond .ge 5, 3) := by decide +kernel
theorem dX1_stateAt_15 : decode cX1_stateAt 15 = .ok (.aconst_null, 1) := by decide +kernel
theorem dX1_stateAt_16 : decode cX1_stateAt 16 = .ok (.areturn, 1) := by decide +kernel
theorem dX1_stateAt_17 : decode cX1_stateAt 17 = .ok (.aload_n 0, 1) := by decide +kernel
theorem dX1_stateAt_18 : decode cX1_stateAt 18 = .ok (.getfield 11, 3) := by decide +kernel
theorem dX1_stateAt_21 : decode cX1_stateAt 21 = .ok (.iload_n 2, 1) := by decide +kernel
theorem dX1_stateAt_22 : decode cX1_stateAt 22 = .ok (.iconst 4, 1) := by decide +kernel
theorem dX1_stateAt_23 : decode cX1_stateAt 23 = .ok (.irem, 1) := by decide +kernel
theorem dX1_stateAt_24 : decode cX1_stateAt 24 = .ok (.aaload, 1) := by decide +kernel
theorem dX1_stateAt_25 : decode cX1_stateAt 25 = .ok (.areturn, 1) := by decide +kernel
theorem dX2_init_0 : decode cX2_init 0 = .ok (.aload_n 0, 1) := by decide +kernel
theorem dX2_init_1 : decode cX2_init 1 = .ok (.invokespecial 3, 3) := by decide +kernel
theorem dX2_init_4 : decode cX2_init 4 = .ok (.aload_n 0, 1) := by decide +kernel
theorem dX2_init_5 : decode cX2_init 5 = .ok (.bipush (-5), 2) := by decide +kernel
theorem dX2_init_7 : decode cX2_init 7 = .ok (.putfield 9, 3) := by decide +kernel
theorem dX2_init_10 : decode cX2_init 10 = .ok (.aload_n 0, 1) := by decide +kernel
theorem dX2_init_11 : decode cX2_init 11 = .ok (.bipush (-5), 2) := by decide +kernel
theorem dX2_init_13 : decode cX2_init 13 = .ok (.putfield 15, 3) := by decide +kernel
theorem dX2_init_16 : decode cX2_init 16 = .ok (.aload_n 0, 1) := by decide +kernel
theorem dX2_init_17 : decode cX2_init 17 = .ok (.bipush (-5), 2) := by decide +kernel
theorem dX2_init_19 : decode cX2_init 19 = .ok (.putfield 18, 3) := by decide +kernel
theorem dX2_init_22 : decode cX2_init 22 = .ok (.aload_n 0, 1) := by decide +kernel
theorem dX2_init_23 : decode cX2_init 23 = .ok (.bipush 8, 2) := by decide +kernel
theorem dX2_init_25 : decode cX2_init 25 = .ok (.newarray .int, 2) := by decide +kernel
theorem dX2_init_27 : decode cX2_init 27 = .ok (.putfield 21, 3) := by decide +kernel
theorem dX2_init_30 : decode cX2_init 30 = .ok (.aload_n 0, 1) := by decide +kernel
theorem dX2_init_31 : decode cX2_init 31 = .ok (.bipush 8, 2) := by decide +kernel
theorem dX2_init_33 : decode cX2_init 33 = .ok (.newarray .int, 2) := by decide +kernel
theorem dX2_init_35 : decode cX2_init 35 = .ok (.putfield 25, 3) := by decide +kernel
theorem dX2_init_38 : decode cX2_init 38 = .ok (.aload_n 0, 1) := by decide +kernel
theorem dX2_init_39 : decode cX2_init 39 = .ok (.bipush 8, 2) := by decide +kernel
theorem dX2_init_41 : decode cX2_init 41 = .ok (.newarray .int, 2) := by decide +kernel
theorem dX2_init_43 : decode cX2_init 43 = .ok (.putfield 28, 3) := by decide +kernel
theorem dX2_init_46 : decode cX2_init 46 = .ok (.return_, 1) := by decide +kernel
theorem dX2_begin_0 : decode cX2_begin 0 = .ok (.aload_n 0, 1) := by decide +kernel
theorem dX2_begin_1 : decode cX2_begin 1 = .ok (.iload_n 1, 1) := by decide +kernel
theorem dX2_begin_2 : decode cX2_begin 2 = .ok (.putfield 31, 3) := by decide +kernel
theorem dX2_begin_5 : decode cX2_begin 5 = .ok (.aload_n 0, 1) := by decide +kernel
theorem dX2_begin_6 : decode cX2_begin 6 = .ok (.iload_n 2, 1) := by decide +kernel
theorem dX2_begin_7 : decode cX2_begin 7 = .ok (.putfield 34, 3) := by decide +kernel
theorem dX2_begin_10 : decode cX2_begin 10 = .ok (.aload_n 0, 1) := by decide +kernel
theorem dX2_begin_11 : decode cX2_begin 11 = .ok (.bipush (-5), 2) := by decide +kernel
theorem dX2_begin_13 : decode cX2_begin 13 = .ok (.putfield 18, 3) := by decide +kernel
theorem dX2_begin_16 : decode cX2_begin 16 = .ok (.aload_n 0, 1) := by decide +kernel
theorem dX2_begin_17 : decode cX2_begin 17 = .ok (.iconst 0, 1) := by decide +kernel
theorem dX2_begin_18 : decode cX2_begin 18 = .ok (.putfield 37, 3) := by decide +kernel
theorem dX2_begin_21 : decode cX2_begin 21 = .ok (.aload_n 0, 1) := by decide +kernel
theorem dX2_begin_22 : decode cX2_begin 22 = .ok (.invokevirtual 40, 3) := by decide +kernel
theorem dX2_begin_25 : decode cX2_begin 25 = .ok (.return_, 1) := by decide +kernel
theorem dX2_copyLife_0 : decode cX2_copyLife 0 = .ok (.aload_n 0, 1) := by decide +kernel
theorem dX2_copyLife_1 : decode cX2_copyLife 1 = .ok (.aload_n 1, 1) := by decide +kernel
theorem dX2_copyLife_2 : decode cX2_copyLife 2 = .ok (.getfield 31, 3) := by decide +kernel
theorem dX2_copyLife_5 : decode cX2_copyLife 5 = .ok (.putfield 31, 3) := by decide +kernel
theorem dX2_copyLife_8 : decode cX2_copyLife 8 = .ok (.aload_n 0, 1) := by decide +kernel
theorem dX2_copyLife_9 : decode cX2_copyLife 9 = .ok (.aload_n 1, 1) := by decide +kernel
theorem dX2_copyLife_10 : decode cX2_copyLife 10 = .ok (.getfield 34, 3) := by decide +kernel
theorem dX2_copyLife_13 : decode cX2_copyLife 13 = .ok (.putfield 34, 3) := by decide +kernel
theorem dX2_copyLife_16 : decode cX2_copyLife 16 = .ok (.aload_n 0, 1) := by decide +kernel
theorem dX2_copyLife_17 : decode cX2_copyLife 17 = .ok (.aload_n 1, 1) := by decide +kernel
theorem dX2_copyLife_18 : decode cX2_copyLife 18 = .ok (.getfield 43, 3) := by decide +kernel
theorem dX2_copyLife_21 : decode cX2_copyLife 21 = .ok (.putfield 43, 3) := by decide +kernel
theorem dX2_copyLife_24 : decode cX2_copyLife 24 = .ok (.aload_n 0, 1) := by decide +kernel
theorem dX2_copyLife_25 : decode cX2_copyLife 25 = .ok (.aload_n 1, 1) := by decide +kernel
theorem dX2_copyLife_26 : decode cX2_copyLife 26 = .ok (.getfield 9, 3) := by decide +kernel
theorem dX2_copyLife_29 : decode cX2_copyLife 29 = .ok (.putfield 9, 3) := by decide +kernel
theorem dX2_copyLife_32 : decode cX2_copyLife 32 = .ok (.aload_n 0, 1) := by decide +kernel
theorem dX2_copyLife_33 : decode cX2_copyLife 33 = .ok (.aload_n 1, 1) := by decide +kernel
theorem dX2_copyLife_34 : decode cX2_copyLife 34 = .ok (.getfield 15, 3) := by decide +kernel
theorem dX2_copyLife_37 : decode cX2_copyLife 37 = .ok (.putfield 15, 3) := by decide +kernel
theorem dX2_copyLife_40 : decode cX2_copyLife 40 = .ok (.aload_n 0, 1) := by decide +kernel
theorem dX2_copyLife_41 : decode cX2_copyLife 41 = .ok (.aload_n 1, 1) := by decide +kernel
theorem dX2_copyLife_42 : decode cX2_copyLife 42 = .ok (.getfield 18, 3) := by decide +kernel
theorem dX2_copyLife_45 : decode cX2_copyLife 45 = .ok (.putfield 18, 3) := by decide +kernel
theorem dX2_copyLife_48 : decode cX2_copyLife 48 = .ok (.aload_n 0, 1) := by decide +kernel
theorem dX2_copyLife_49 : decode cX2_copyLife 49 = .ok (.aload_n 1, 1) := by decide +kernel
theorem dX2_copyLife_50 : decode cX2_copyLife 50 = .ok (.getfield 37, 3) := by decide +kernel
theorem dX2_copyLife_53 : decode cX2_copyLife 53 = .ok (.putfield 37, 3) := by decide +kernel
theorem dX2_copyLife_56 : decode cX2_copyLife 56 = .ok (.aload_n 1, 1) := by decide +kernel
theorem dX2_copyLife_57 : decode cX2_copyLife 57 = .ok (.getfield 21, 3) := by decide +kernel
theorem dX2_copyLife_60 : decode cX2_copyLife 60 = .ok (.iconst 0, 1) := by decide +kernel
theorem dX2_copyLife_61 : decode cX2_copyLife 61 = .ok (.aload_n 0, 1) := by decide +kernel
theorem dX2_copyLife_62 : decode cX2_copyLife 62 = .ok (.getfield 21, 3) := by decide +kernel
theorem dX2_copyLife_65 : decode cX2_copyLife 65 = .ok (.iconst 0, 1) := by decide +kernel
theorem dX2_copyLife_66 : decode cX2_copyLife 66 = .ok (.bipush 8, 2) := by decide +kernel
theorem dX2_copyLife_68 : decode cX2_copyLife 68 = .ok (.invokestatic 46, 3) := by decide +kernel
theorem dX2_copyLife_71 : decode cX2_copyLife 71 = .ok (.aload_n 1, 1) := by decide +kernel
theorem dX2_copyLife_72 : decode cX2_copyLife 72 = .ok (.getfield 25, 3) := by decide +kernel
theorem dX2_copyLife_75 : decode cX2_copyLife 75 = .ok (.iconst 0, 1) := by decide +kernel
theorem dX2_copyLife_76 : decode cX2_copyLife 76 = .ok (.aload_n 0, 1) := by decide +kernel
theorem dX2_copyLife_77 : decode cX2_copyLife 77 = .ok (.getfield 25, 3) := by decide +kernel
theorem dX2_copyLife_80 : decode cX2_copyLife 80 = .ok (.iconst 0, 1) := by decide +kernel
theorem dX2_copyLife_81 : decode cX2_copyLife 81 = .ok (.bipush 8, 2) := by decide +kernel
theorem dX2_copyLife_83 : decode cX2_copyLife 83 = .ok (.invokestatic 46, 3) := by decide +kernel
theorem dX2_copyLife_86 : decode cX2_copyLife 86 = .ok (.aload_n 1, 1) := by decide +kernel
theorem dX2_copyLife_87 : decode cX2_copyLife 87 = .ok (.getfield 28, 3) := by decide +kernel
theorem dX2_copyLife_90 : decode cX2_copyLife 90 = .ok (.iconst 0, 1) := by decide +kernel
theorem dX2_copyLife_91 : decode cX2_copyLife 91 = .ok (.aload_n 0, 1) := by decide +kernel
theorem dX2_copyLife_92 : decode cX2_copyLife 92 = .ok (.getfield 28, 3) := by decide +kernel
theorem dX2_copyLife_95 : decode cX2_copyLife 95 = .ok (.iconst 0, 1) := by decide +kernel
theorem dX2_copyLife_96 : decode cX2_copyLife 96 = .ok (.bipush 8, 2) := by decide +kernel
theorem dX2_copyLife_98 : decode cX2_copyLife 98 = .ok (.invokestatic 46, 3) := by decide +kernel
theorem dX2_copyLife_101 : decode cX2_copyLife 101 = .ok (.return_, 1) := by decide +kernel
theorem dX2_age_0 : decode cX2_age 0 = .ok (.aload_n 0, 1) := by decide +kernel
theorem dX2_age_1 : decode cX2_age 1 = .ok (.getfield 31, 3) := by decide +kernel
theorem dX2_age_4 : decode cX2_age 4 = .ok (.ireturn, 1) := by decide +kernel
theorem dX2_rank_0 : decode cX2_rank 0 = .ok (.aload_n 0, 1) := by decide +kernel
theorem dX2_rank_1 : decode cX2_rank 1 = .ok (.getfield 34, 3) := by decide +kernel
theorem dX2_rank_4 : decode cX2_rank 4 = .ok (.ireturn, 1) := by decide +kernel
theorem dX2_state_0 : decode cX2_state 0 = .ok (.aload_n 0, 1) := by decide +kernel
theorem dX2_state_1 : decode cX2_state 1 = .ok (.getfield 43, 3) := by decide +kernel
theorem dX2_state_4 : decode cX2_state 4 = .ok (.ireturn, 1) := by decide +kernel
theorem dX2_isIn_0 : decode cX2_isIn 0 = .ok (.aload_n 0, 1) := by decide +kernel
theorem dX2_isIn_1 : decode cX2_isIn 1 = .ok (.getfield 43, 3) := by decide +kernel
theorem dX2_isIn_4 : decode cX2_isIn 4 = .ok (.iload_n 1, 1) := by decide +kernel
theorem dX2_isIn_5 : decode cX2_isIn 5 = .ok (.if_icmp .ne 7, 3) := by decide +kernel
theorem dX2_isIn_8 : decode cX2_isIn 8 = .ok (.iconst 1, 1) := by decide +kernel
theorem dX2_isIn_9 : decode cX2_isIn 9 = .ok (.goto 4, 3) := by decide +kernel
theorem dX2_isIn_12 : decode cX2_isIn 12 = .ok (.iconst 0, 1) := by decide +kernel
theorem dX2_isIn_13 : decode cX2_isIn 13 = .ok (.ireturn, 1) := by decide +kernel
theorem dX2_teller_0 : decode cX2_teller 0 = .ok (.aload_n 0, 1) := by decide +kernel
theorem dX2_teller_1 : decode cX2_teller 1 = .ok (.getfield 9, 3) := by decide +kernel
theorem dX2_teller_4 : decode cX2_teller 4 = .ok (.ireturn, 1) := by decide +kernel
theorem dX2_deathDay_0 : decode cX2_deathDay 0 = .ok (.aload_n 0, 1) := by decide +kernel
theorem dX2_deathDay_1 : decode cX2_deathDay 1 = .ok (.getfield 15, 3) := by decide +kernel
theorem dX2_deathDay_4 : decode cX2_deathDay 4 = .ok (.ireturn, 1) := by decide +kernel
theorem dX2_printDay_0 : decode cX2_printDay 0 = .ok (.aload_n 0, 1) := by decide +kernel
theorem dX2_printDay_1 : decode cX2_printDay 1 = .ok (.getfield 18, 3) := by decide +kernel
theorem dX2_printDay_4 : decode cX2_printDay 4 = .ok (.ireturn, 1) := by decide +kernel
theorem dX2_size_0 : decode cX2_size 0 = .ok (.aload_n 0, 1) := by decide +kernel
theorem dX2_size_1 : decode cX2_size 1 = .ok (.getfield 37, 3) := by decide +kernel
theorem dX2_size_4 : decode cX2_size 4 = .ok (.ireturn, 1) := by decide +kernel
theorem dX2_tellDead_0 : decode cX2_tellDead 0 = .ok (.aload_n 0, 1) := by decide +kernel
theorem dX2_tellDead_1 : decode cX2_tellDead 1 = .ok (.iconst 1, 1) := by decide +kernel
theorem dX2_tellDead_2 : decode cX2_tellDead 2 = .ok (.putfield 43, 3) := by decide +kernel
theorem dX2_tellDead_5 : decode cX2_tellDead 5 = .ok (.aload_n 0, 1) := by decide +kernel
theorem dX2_tellDead_6 : decode cX2_tellDead 6 = .ok (.iload_n 1, 1) := by decide +kernel
theorem dX2_tellDead_7 : decode cX2_tellDead 7 = .ok (.putfield 9, 3) := by decide +kernel
theorem dX2_tellDead_10 : decode cX2_tellDead 10 = .ok (.aload_n 0, 1) := by decide +kernel
theorem dX2_tellDead_11 : decode cX2_tellDead 11 = .ok (.iload_n 2, 1) := by decide +kernel
theorem dX2_tellDead_12 : decode cX2_tellDead 12 = .ok (.putfield 15, 3) := by decide +kernel
theorem dX2_tellDead_15 : decode cX2_tellDead 15 = .ok (.return_, 1) := by decide +kernel
theorem dX2_confirmDeath_0 : decode cX2_confirmDeath 0 = .ok (.aload_n 0, 1) := by decide +kernel
theorem dX2_confirmDeath_1 : decode cX2_confirmDeath 1 = .ok (.iconst 2, 1) := by decide +kernel
theorem dX2_confirmDeath_2 : decode cX2_confirmDeath 2 = .ok (.putfield 43, 3) := by decide +kernel
theorem dX2_confirmDeath_5 : decode cX2_confirmDeath 5 = .ok (.aload_n 0, 1) := by decide +kernel
theorem dX2_confirmDeath_6 : decode cX2_confirmDeath 6 = .ok (.bipush (-5), 2) := by decide +kernel
theorem dX2_confirmDeath_8 : decode cX2_confirmDeath 8 = .ok (.putfield 9, 3) := by decide +kernel
theorem dX2_confirmDeath_11 : decode cX2_confirmDeath 11 = .ok (.aload_n 0, 1) := by decide +kernel
theorem dX2_confirmDeath_12 : decode cX2_confirmDeath 12 = .ok (.iload_n 1, 1) := by decide +kernel
theorem dX2_confirmDeath_13 : decode cX2_confirmDeath 13 = .ok (.putfield 15, 3) := by decide +kernel
theorem dX2_confirmDeath_16 : decode cX2_confirmDeath 16 = .ok (.return_, 1) := by decide +kernel
theorem dX2_takeBackDeath_0 : decode cX2_takeBackDeath 0 = .ok (.aload_n 0, 1) := by decide +kernel
theorem dX2_takeBackDeath_1 : decode cX2_takeBackDeath 1 = .ok (.iconst 0, 1) := by decide +kernel
theorem dX2_takeBackDeath_2 : decode cX2_takeBackDeath 2 = .ok (.putfield 43, 3) := by decide +kernel
theorem dX2_takeBackDeath_5 : decode cX2_takeBackDeath 5 = .ok (.aload_n 0, 1) := by decide +kernel
theorem dX2_takeBackDeath_6 : decode cX2_takeBackDeath 6 = .ok (.bipush (-5), 2) := by decide +kernel
theorem dX2_takeBackDeath_8 : decode cX2_takeBackDeath 8 = .ok (.putfield 9, 3) := by decide +kernel
theorem dX2_takeBackDeath_11 : decode cX2_takeBackDeath 11 = .ok (.aload_n 0, 1) := by decide +kernel
theorem dX2_takeBackDeath_12 : decode cX2_takeBackDeath 12 = .ok (.bipush (-5), 2) := by decide +kernel
theorem dX2_takeBackDeath_14 : decode cX2_takeBackDeath 14 = .ok (.putfield 15, 3) := by decide +kernel
theorem dX2_takeBackDeath_17 : decode cX2_takeBackDeath 17 = .ok (.return_, 1) := by decide +kernel
theorem dX2_becomePrinted_0 : decode cX2_becomePrinted 0 = .ok (.aload_n 0, 1) := by decide +kernel
theorem dX2_becomePrinted_1 : decode cX2_becomePrinted 1 = .ok (.iconst 3, 1) := by decide +kernel
theorem dX2_becomePrinted_2 : decode cX2_becomePrinted 2 = .ok (.putfield 43, 3) := by decide +kernel
theorem dX2_becomePrinted_5 : decode cX2_becomePrinted 5 = .ok (.aload_n 0, 1) := by decide +kernel
theorem dX2_becomePrinted_6 : decode cX2_becomePrinted 6 = .ok (.iload_n 1, 1) := by decide +kernel
theorem dX2_becomePrinted_7 : decode cX2_becomePrinted 7 = .ok (.putfield 18, 3) := by decide +kernel
theorem dX2_becomePrinted_10 : decode cX2_becomePrinted 10 = .ok (.return_, 1) := by decide +kernel
theorem dX2_hasFact_0 : decode cX2_hasFact 0 = .ok (.iload_n 1, 1) := by decide +kernel
theorem dX2_hasFact_1 : decode cX2_hasFact 1 = .ok (.ifCond .lt 21, 3) := by decide +kernel
theorem dX2_hasFact_4 : decode cX2_hasFact 4 = .ok (.iload_n 1, 1) := by decide +kernel
theorem dX2_hasFact_5 : decode cX2_hasFact 5 = .ok (.aload_n 0, 1) := by decide +kernel
theorem dX2_hasFact_6 : decode cX2_hasFact 6 = .ok (.getfield 37, 3) := by decide +kernel
theorem dX2_hasFact_9 : decode cX2_hasFact 9 = .ok (.if_icmp .ge 13, 3) := by decide +kernel
theorem dX2_hasFact_12 : decode cX2_hasFact 12 = .ok (.iload_n 1, 1) := by decide +kernel
theorem dX2_hasFact_13 : decode cX2_hasFact 13 = .ok (.bipush 8, 2) := by decide +kernel
theorem dX2_hasFact_15 : decode cX2_hasFact 15 = .ok (.if_icmp .ge 7, 3) := by decide +kernel
theorem dX2_hasFact_18 : decode cX2_hasFact 18 = .ok (.iconst 1, 1) := by decide +kernel
theorem dX2_hasFact_19 : decode cX2_hasFact 19 = .ok (.goto 4, 3) := by decide +kernel
theorem dX2_hasFact_22 : decode cX2_hasFact 22 = .ok (.iconst 0, 1) := by decide +kernel
theorem dX2_hasFact_23 : decode cX2_hasFact 23 = .ok (.ireturn, 1) := by decide +kernel
theorem dX2_sourceOf_0 : decode cX2_sourceOf 0 = .ok (.aload_n 0, 1) := by decide +kernel
theorem dX2_sourceOf_1 : decode cX2_sourceOf 1 = .ok (.iload_n 1, 1) := by decide +kernel
theorem dX2_sourceOf_2 : decode cX2_sourceOf 2 = .ok (.invokevirtual 52, 3) := by decide +kernel
theorem dX2_sourceOf_5 : decode cX2_sourceOf 5 = .ok (.ifCond .eq 12, 3) := by decide +kernel
theorem dX2_sourceOf_8 : decode cX2_sourceOf 8 = .ok (.aload_n 0, 1) := by decide +kernel
theorem dX2_sourceOf_9 : decode cX2_sourceOf 9 = .ok (.getfield 21, 3) := by decide +kernel
theorem dX2_sourceOf_12 : decode cX2_sourceOf 12 = .ok (.iload_n 1, 1) := by decide +kernel
theorem dX2_sourceOf_13 : decode cX2_sourceOf 13 = .ok (.iaload, 1) := by decide +kernel
theorem dX2_sourceOf_14 : decode cX2_sourceOf 14 = .ok (.goto 5, 3) := by decide +kernel
theorem dX2_sourceOf_17 : decode cX2_sourceOf 17 = .ok (.bipush (-5), 2) := by decide +kernel
theorem dX2_sourceOf_19 : decode cX2_sourceOf 19 = .ok (.ireturn, 1) := by decide +kernel
theorem dX2_linesOf_0 : decode cX2_linesOf 0 = .ok (.aload_n 0, 1) := by decide +kernel
theorem dX2_linesOf_1 : decode cX2_linesOf 1 = .ok (.iload_n 1, 1) := by decide +kernel
theorem dX2_linesOf_2 : decode cX2_linesOf 2 = .ok (.invokevirtual 52, 3) := by decide +kernel
theorem dX2_linesOf_5 : decode cX2_linesOf 5 = .ok (.ifCond .eq 12, 3) := by decide +kernel
theorem dX2_linesOf_8 : decode cX2_linesOf 8 = .ok (.aload_n 0, 1) := by decide +kernel
theorem dX2_linesOf_9 : decode cX2_linesOf 9 = .ok (.getfield 25, 3) := by decide +kernel
theorem dX2_linesOf_12 : decode cX2_linesOf 12 = .ok (.iload_n 1, 1) := by decide +kernel
theorem dX2_linesOf_13 : decode cX2_linesOf 13 = .ok (.iaload, 1) := by decide +kernel
theorem dX2_linesOf_14 : decode cX2_linesOf 14 = .ok (.goto 4, 3) := by decide +kernel
theorem dX2_linesOf_17 : decode cX2_linesOf 17 = .ok (.iconst 0, 1) := by decide +kernel
theorem dX2_linesOf_18 : decode cX2_linesOf 18 = .ok (.ireturn, 1) := by decide +kernel
theorem dX2_dayOf_0 : decode cX2_dayOf 0 = .ok (.aload_n 0, 1) := by decide +kernel
theorem dX2_dayOf_1 : decode cX2_dayOf 1 = .ok (.iload_n 1, 1) := by decide +kernel
theorem dX2_dayOf_2 : decode cX2_dayOf 2 = .ok (.invokevirtual 52, 3) := by decide +kernel
theorem dX2_dayOf_5 : decode cX2_dayOf 5 = .ok (.ifCond .eq 12, 3) := by decide +kernel
theorem dX2_dayOf_8 : decode cX2_dayOf 8 = .ok (.aload_n 0, 1) := by decide +kernel
theorem dX2_dayOf_9 : decode cX2_dayOf 9 = .ok (.getfield 28, 3) := by decide +kernel
theorem dX2_dayOf_12 : decode cX2_dayOf 12 = .ok (.iload_n 1, 1) := by decide +kernel
theorem dX2_dayOf_13 : decode cX2_dayOf 13 = .ok (.iaload, 1) := by decide +kernel
theorem dX2_dayOf_14 : decode cX2_dayOf 14 = .ok (.goto 5, 3) := by decide +kernel
theorem dX2_dayOf_17 : decode cX2_dayOf 17 = .ok (.bipush (-5), 2) := by decide +kernel
theorem dX2_dayOf_19 : decode cX2_dayOf 19 = .ok (.ireturn, 1) := by decide +kernel
theorem dX2_addFact_0 : decode cX2_addFact 0 = .ok (.aload_n 0, 1) := by decide +kernel
theorem dX2_addFact_1 : decode cX2_addFact 1 = .ok (.getfield 37, 3) := by decide +kernel
theorem dX2_addFact_4 : decode cX2_addFact 4 = .ok (.ifCond .lt 12, 3) := by decide +kernel
theorem dX2_addFact_7 : decode cX2_addFact 7 = .ok (.aload_n 0, 1) := by decide +kernel
theorem dX2_addFact_8 : decode cX2_addFact 8 = .ok (.getfield 37, 3) := by decide +kernel
theorem dX2_addFact_11 : decode cX2_addFact 11 = .ok (.bipush 8, 2) := by decide +kernel
theorem dX2_addFact_13 : decode cX2_addFact 13 = .ok (.if_icmp .lt 6, 3) := by decide +kernel
theorem dX2_addFact_16 : decode cX2_addFact 16 = .ok (.bipush (-3), 2) := by decide +kernel
theorem dX2_addFact_18 : decode cX2_addFact 18 = .ok (.ireturn, 1) := by decide +kernel
theorem dX2_addFact_19 : decode cX2_addFact 19 = .ok (.aload_n 0, 1) := by decide +kernel
theorem dX2_addFact_20 : decode cX2_addFact 20 = .ok (.getfield 21, 3) := by decide +kernel
theorem dX2_addFact_23 : decode cX2_addFact 23 = .ok (.aload_n 0, 1) := by decide +kernel
theorem dX2_addFact_24 : decode cX2_addFact 24 = .ok (.getfield 37, 3) := by decide +kernel
theorem dX2_addFact_27 : decode cX2_addFact 27 = .ok (.iload_n 1, 1) := by decide +kernel
theorem dX2_addFact_28 : decode cX2_addFact 28 = .ok (.iastore, 1) := by decide +kernel
theorem dX2_addFact_29 : decode cX2_addFact 29 = .ok (.aload_n 0, 1) := by decide +kernel
theorem dX2_addFact_30 : decode cX2_addFact 30 = .ok (.getfield 25, 3) := by decide +kernel
theorem dX2_addFact_33 : decode cX2_addFact 33 = .ok (.aload_n 0, 1) := by decide +kernel
theorem dX2_addFact_34 : decode cX2_addFact 34 = .ok (.getfield 37, 3) := by decide +kernel
theorem dX2_addFact_37 : decode cX2_addFact 37 = .ok (.iload_n 2, 1) := by decide +kernel
theorem dX2_addFact_38 : decode cX2_addFact 38 = .ok (.iastore, 1) := by decide +kernel
theorem dX2_addFact_39 : decode cX2_addFact 39 = .ok (.aload_n 0, 1) := by decide +kernel
theorem dX2_addFact_40 : decode cX2_addFact 40 = .ok (.getfield 28, 3) := by decide +kernel
theorem dX2_addFact_43 : decode cX2_addFact 43 = .ok (.aload_n 0, 1) := by decide +kernel
theorem dX2_addFact_44 : decode cX2_addFact 44 = .ok (.getfield 37, 3) := by decide +kernel
theorem dX2_addFact_47 : decode cX2_addFact 47 = .ok (.iload_n 3, 1) := by decide +kernel
theorem dX2_addFact_48 : decode cX2_addFact 48 = .ok (.iastore, 1) := by decide +kernel
theorem dX2_addFact_49 : decode cX2_addFact 49 = .ok (.aload_n 0, 1) := by decide +kernel
theorem dX2_addFact_50 : decode cX2_addFact 50 = .ok (.dup, 1) := by decide +kernel
theorem dX2_addFact_51 : decode cX2_addFact 51 = .ok (.getfield 37, 3) := by decide +kernel
theorem dX2_addFact_54 : decode cX2_addFact 54 = .ok (.iconst 1, 1) := by decide +kernel
theorem dX2_addFact_55 : decode cX2_addFact 55 = .ok (.iadd, 1) := by decide +kernel
theorem dX2_addFact_56 : decode cX2_addFact 56 = .ok (.putfield 37, 3) := by decide +kernel
theorem dX2_addFact_59 : decode cX2_addFact 59 = .ok (.aload_n 0, 1) := by decide +kernel
theorem dX2_addFact_60 : decode cX2_addFact 60 = .ok (.getfield 37, 3) := by decide +kernel
theorem dX2_addFact_63 : decode cX2_addFact 63 = .ok (.iconst 1, 1) := by decide +kernel
theorem dX2_addFact_64 : decode cX2_addFact 64 = .ok (.isub, 1) := by decide +kernel
theorem dX2_addFact_65 : decode cX2_addFact 65 = .ok (.ireturn, 1) := by decide +kernel
theorem dX2_removeFact_0 : decode cX2_removeFact 0 = .ok (.aload_n 0, 1) := by decide +kernel
theorem dX2_removeFact_1 : decode cX2_removeFact 1 = .ok (.iload_n 1, 1) := by decide +kernel
theorem dX2_removeFact_2 : decode cX2_removeFact 2 = .ok (.invokevirtual 52, 3) := by decide +kernel
theorem dX2_removeFact_5 : decode cX2_removeFact 5 = .ok (.ifCond .ne 4, 3) := by decide +kernel
theorem dX2_removeFact_8 : decode cX2_removeFact 8 = .ok (.return_, 1) := by decide +kernel
theorem dX2_removeFact_9 : decode cX2_removeFact 9 = .ok (.iload_n 1, 1) := by decide +kernel
theorem dX2_removeFact_10 : decode cX2_removeFact 10 = .ok (.istore_n 2, 1) := by decide +kernel
theorem dX2_removeFact_11 : decode cX2_removeFact 11 = .ok (.iload_n 2, 1) := by decide +kernel
theorem dX2_removeFact_12 : decode cX2_removeFact 12 = .ok (.aload_n 0, 1) := by decide +kernel
theorem dX2_removeFact_13 : decode cX2_removeFact 13 = .ok (.getfield 37, 3) := by decide +kernel
theorem dX2_removeFact_16 : decode cX2_removeFact 16 = .ok (.iconst 1, 1) := by decide +kernel
theorem dX2_removeFact_17 : decode cX2_removeFact 17 = .ok (.isub, 1) := by decide +kernel
theorem dX2_removeFact_18 : decode cX2_removeFact 18 = .ok (.if_icmp .ge 57, 3) := by decide +kernel
theorem dX2_removeFact_21 : decode cX2_removeFact 21 = .ok (.iload_n 2, 1) := by decide +kernel
theorem dX2_removeFact_22 : decode cX2_removeFact 22 = .ok (.bipush 7, 2) := by decide +kernel
theorem dX2_removeFact_24 : decode cX2_removeFact 24 = .ok (.if_icmp .ge 51, 3) := by decide +kernel
theorem dX2_removeFact_27 : decode cX2_removeFact 27 = .ok (.aload_n 0, 1) := by decide +kernel
theorem dX2_removeFact_28 : decode cX2_removeFact 28 = .ok (.getfield 21, 3) := by decide +kernel
theorem dX2_removeFact_31 : decode cX2_removeFact 31 = .ok (.iload_n 2, 1) := by decide +kernel
theorem dX2_removeFact_32 : decode cX2_removeFact 32 = .ok (.aload_n 0, 1) := by decide +kernel
theorem dX2_removeFact_33 : decode cX2_removeFact 33 = .ok (.getfield 21, 3) := by decide +kernel
theorem dX2_removeFact_36 : decode cX2_removeFact 36 = .ok (.iload_n 2, 1) := by decide +kernel
theorem dX2_removeFact_37 : decode cX2_removeFact 37 = .ok (.iconst 1, 1) := by decide +kernel
theorem dX2_removeFact_38 : decode cX2_removeFact 38 = .ok (.iadd, 1) := by decide +kernel
theorem dX2_removeFact_39 : decode cX2_removeFact 39 = .ok (.iaload, 1) := by decide +kernel
theorem dX2_removeFact_40 : decode cX2_removeFact 40 = .ok (.iastore, 1) := by decide +kernel
theorem dX2_removeFact_41 : decode cX2_removeFact 41 = .ok (.aload_n 0, 1) := by decide +kernel
theorem dX2_removeFact_42 : decode cX2_removeFact 42 = .ok (.getfield 25, 3) := by decide +kernel
theorem dX2_removeFact_45 : decode cX2_removeFact 45 = .ok (.iload_n 2, 1) := by decide +kernel
theorem dX2_removeFact_46 : decode cX2_removeFact 46 = .ok (.aload_n 0, 1) := by decide +kernel
theorem dX2_removeFact_47 : decode cX2_removeFact 47 = .ok (.getfield 25, 3) := by decide +kernel
theorem dX2_removeFact_50 : decode cX2_removeFact 50 = .ok (.iload_n 2, 1) := by decide +kernel
theorem dX2_removeFact_51 : decode cX2_removeFact 51 = .ok (.iconst 1, 1) := by decide +kernel
theorem dX2_removeFact_52 : decode cX2_removeFact 52 = .ok (.iadd, 1) := by decide +kernel
theorem dX2_removeFact_53 : decode cX2_removeFact 53 = .ok (.iaload, 1) := by decide +kernel
theorem dX2_removeFact_54 : decode cX2_removeFact 54 = .ok (.iastore, 1) := by decide +kernel
theorem dX2_removeFact_55 : decode cX2_removeFact 55 = .ok (.aload_n 0, 1) := by decide +kernel
theorem dX2_removeFact_56 : decode cX2_removeFact 56 = .ok (.getfield 28, 3) := by decide +kernel
theorem dX2_removeFact_59 : decode cX2_removeFact 59 = .ok (.iload_n 2, 1) := by decide +kernel
theorem dX2_removeFact_60 : decode cX2_removeFact 60 = .ok (.aload_n 0, 1) := by decide +kernel
theorem dX2_removeFact_61 : decode cX2_removeFact 61 = .ok (.getfield 28, 3) := by decide +kernel
theorem dX2_removeFact_64 : decode cX2_removeFact 64 = .ok (.iload_n 2, 1) := by decide +kernel
theorem dX2_removeFact_65 : decode cX2_removeFact 65 = .ok (.iconst 1, 1) := by decide +kernel
theorem dX2_removeFact_66 : decode cX2_removeFact 66 = .ok (.iadd, 1) := by decide +kernel
theorem dX2_removeFact_67 : decode cX2_removeFact 67 = .ok (.iaload, 1) := by decide +kernel
theorem dX2_removeFact_68 : decode cX2_removeFact 68 = .ok (.iastore, 1) := by decide +kernel
theorem dX2_removeFact_69 : decode cX2_removeFact 69 = .ok (.iinc 2 1, 3) := by decide +kernel
theorem dX2_removeFact_72 : decode cX2_removeFact 72 = .ok (.goto (-61), 3) := by decide +kernel
theorem dX2_removeFact_75 : decode cX2_removeFact 75 = .ok (.aload_n 0, 1) := by decide +kernel
theorem dX2_removeFact_76 : decode cX2_removeFact 76 = .ok (.dup, 1) := by decide +kernel
theorem dX2_removeFact_77 : decode cX2_removeFact 77 = .ok (.getfield 37, 3) := by decide +kernel
theorem dX2_removeFact_80 : decode cX2_removeFact 80 = .ok (.iconst 1, 1) := by decide +kernel
theorem dX2_removeFact_81 : decode cX2_removeFact 81 = .ok (.isub, 1) := by decide +kernel
theorem dX2_removeFact_82 : decode cX2_removeFact 82 = .ok (.putfield 37, 3) := by decide +kernel
theorem dX2_removeFact_85 : decode cX2_removeFact 85 = .ok (.return_, 1) := by decide +kernel
theorem dX2_changeSource_0 : decode cX2_changeSource 0 = .ok (.aload_n 0, 1) := by decide +kernel
theorem dX2_changeSource_1 : decode cX2_changeSource 1 = .ok (.iload_n 1, 1) := by decide +kernel
theorem dX2_changeSource_2 : decode cX2_changeSource 2 = .ok (.invokevirtual 52, 3) := by decide +kernel
theorem dX2_changeSource_5 : decode cX2_changeSource 5 = .ok (.ifCond .eq 10, 3) := by decide +kernel
theorem dX2_changeSource_8 : decode cX2_changeSource 8 = .ok (.aload_n 0, 1) := by decide +kernel
theorem dX2_changeSource_9 : decode cX2_changeSource 9 = .ok (.getfield 21, 3) := by decide +kernel
theorem dX2_changeSource_12 : decode cX2_changeSource 12 = .ok (.iload_n 1, 1) := by decide +kernel
theorem dX2_changeSource_13 : decode cX2_changeSource 13 = .ok (.iload_n 2, 1) := by decide +kernel
theorem dX2_changeSource_14 : decode cX2_changeSource 14 = .ok (.iastore, 1) := by decide +kernel
theorem dX2_changeSource_15 : decode cX2_changeSource 15 = .ok (.return_, 1) := by decide +kernel
theorem dX2_changeDay_0 : decode cX2_changeDay 0 = .ok (.aload_n 0, 1) := by decide +kernel
theorem dX2_changeDay_1 : decode cX2_changeDay 1 = .ok (.iload_n 1, 1) := by decide +kernel
theorem dX2_changeDay_2 : decode cX2_changeDay 2 = .ok (.invokevirtual 52, 3) := by decide +kernel
theorem dX2_changeDay_5 : decode cX2_changeDay 5 = .ok (.ifCond .eq 10, 3) := by decide +kernel
theorem dX2_changeDay_8 : decode cX2_changeDay 8 = .ok (.aload_n 0, 1) := by decide +kernel
theorem dX2_changeDay_9 : decode cX2_changeDay 9 = .ok (.getfield 28, 3) := by decide +kernel
theorem dX2_changeDay_12 : decode cX2_changeDay 12 = .ok (.iload_n 1, 1) := by decide +kernel
theorem dX2_changeDay_13 : decode cX2_changeDay 13 = .ok (.iload_n 2, 1) := by decide +kernel
theorem dX2_changeDay_14 : decode cX2_changeDay 14 = .ok (.iastore, 1) := by decide +kernel
theorem dX2_changeDay_15 : decode cX2_changeDay 15 = .ok (.return_, 1) := by decide +kernel
theorem dX2_length_0 : decode cX2_length 0 = .ok (.iconst 0, 1) := by decide +kernel
theorem dX2_length_1 : decode cX2_length 1 = .ok (.istore_n 1, 1) := by decide +kernel
theorem dX2_length_2 : decode cX2_length 2 = .ok (.iconst 0, 1) := by decide +kernel
theorem dX2_length_3 : decode cX2_length 3 = .ok (.istore_n 2, 1) := by decide +kernel
theorem dX2_length_4 : decode cX2_length 4 = .ok (.iload_n 2, 1) := by decide +kernel
theorem dX2_length_5 : decode cX2_length 5 = .ok (.aload_n 0, 1) := by decide +kernel
theorem dX2_length_6 : decode cX2_length 6 = .ok (.getfield 37, 3) := by decide +kernel
theorem dX2_length_9 : decode cX2_length 9 = .ok (.if_icmp .ge 17, 3) := by decide +kernel
theorem dX2_length_12 : decode cX2_length 12 = .ok (.iload_n 1, 1) := by decide +kernel
theorem dX2_length_13 : decode cX2_length 13 = .ok (.aload_n 0, 1) := by decide +kernel
theorem dX2_length_14 : decode cX2_length 14 = .ok (.iload_n 2, 1) := by decide +kernel
theorem dX2_length_15 : decode cX2_length 15 = .ok (.invokevirtual 56, 3) := by decide +kernel
theorem dX2_length_18 : decode cX2_length 18 = .ok (.iadd, 1) := by decide +kernel
theorem dX2_length_19 : decode cX2_length 19 = .ok (.istore_n 1, 1) := by decide +kernel
theorem dX2_length_20 : decode cX2_length 20 = .ok (.iinc 2 1, 3) := by decide +kernel
theorem dX2_length_23 : decode cX2_length 23 = .ok (.goto (-19), 3) := by decide +kernel
theorem dX2_length_26 : decode cX2_length 26 = .ok (.iload_n 1, 1) := by decide +kernel
theorem dX2_length_27 : decode cX2_length 27 = .ok (.ireturn, 1) := by decide +kernel
theorem dX2_differentSources_0 : decode cX2_differentSources 0 = .ok (.iconst 0, 1) := by decide +kernel
theorem dX2_differentSources_1 : decode cX2_differentSources 1 = .ok (.istore_n 1, 1) := by decide +kernel
theorem dX2_differentSources_2 : decode cX2_differentSources 2 = .ok (.iconst 0, 1) := by decide +kernel
theorem dX2_differentSources_3 : decode cX2_differentSources 3 = .ok (.istore_n 2, 1) := by decide +kernel
theorem dX2_differentSources_4 : decode cX2_differentSources 4 = .ok (.iload_n 2, 1) := by decide +kernel
theorem dX2_differentSources_5 : decode cX2_differentSources 5 = .ok (.aload_n 0, 1) := by decide +kernel
theorem dX2_differentSources_6 : decode cX2_differentSources 6 = .ok (.getfield 37, 3) := by decide +kernel
theorem dX2_differentSources_9 : decode cX2_differentSources 9 = .ok (.if_icmp .ge 19, 3) := by decide +kernel
theorem dX2_differentSources_12 : decode cX2_differentSources 12 = .ok (.iload_n 1, 1) := by decide +kernel
theorem dX2_differentSources_13 : decode cX2_differentSources 13 = .ok (.iconst 1, 1) := by decide +kernel
theorem dX2_differentSources_14 : decode cX2_differentSources 14 = .ok (.aload_n 0, 1) := by decide +kernel
theorem dX2_differentSources_15 : decode cX2_differentSources 15 = .ok (.iload_n 2, 1) := by decide +kernel
theorem dX2_differentSources_16 : decode cX2_differentSources 16 = .ok (.invokevirtual 60, 3) := by decide +kernel
theorem dX2_differentSources_19 : decode cX2_differentSources 19 = .ok (.ishl, 1) := by decide +kernel
theorem dX2_differentSources_20 : decode cX2_differentSources 20 = .ok (.ior, 1) := by decide +kernel
theorem dX2_differentSources_21 : decode cX2_differentSources 21 = .ok (.istore_n 1, 1) := by decide +kernel
theorem dX2_differentSources_22 : decode cX2_differentSources 22 = .ok (.iinc 2 1, 3) := by decide +kernel
theorem dX2_differentSources_25 : decode cX2_differentSources 25 = .ok (.goto (-21), 3) := by decide +kernel
theorem dX2_differentSources_28 : decode cX2_differentSources 28 = .ok (.iload_n 1, 1) := by decide +kernel
theorem dX2_differentSources_29 : decode cX2_differentSources 29 = .ok (.invokestatic 63, 3) := by decide +kernel
theorem dX2_differentSources_32 : decode cX2_differentSources 32 = .ok (.ireturn, 1) := by decide +kernel
theorem dX3_init_0 : decode cX3_init 0 = .ok (.aload_n 0, 1) := by decide +kernel
theorem dX3_init_1 : decode cX3_init 1 = .ok (.invokespecial 3, 3) := by decide +kernel
theorem dX3_init_4 : decode cX3_init 4 = .ok (.aload_n 0, 1) := by decide +kernel
theorem dX3_init_5 : decode cX3_init 5 = .ok (.new 9, 3) := by decide +kernel
theorem dX3_init_8 : decode cX3_init 8 = .ok (.dup, 1) := by decide +kernel
theorem dX3_init_9 : decode cX3_init 9 = .ok (.invokespecial 11, 3) := by decide +kernel
theorem dX3_init_12 : decode cX3_init 12 = .ok (.putfield 12, 3) := by decide +kernel
theorem dX3_init_15 : decode cX3_init 15 = .ok (.aload_n 0, 1) := by decide +kernel
theorem dX3_init_16 : decode cX3_init 16 = .ok (.bipush 20, 2) := by decide +kernel
theorem dX3_init_18 : decode cX3_init 18 = .ok (.newarray .int, 2) := by decide +kernel
theorem dX3_init_20 : decode cX3_init 20 = .ok (.putfield 18, 3) := by decide +kernel
theorem dX3_init_23 : decode cX3_init 23 = .ok (.return_, 1) := by decide +kernel
theorem dX3_lay_0 : decode cX3_lay 0 = .ok (.aload_n 0, 1) := by decide +kernel
theorem dX3_lay_1 : decode cX3_lay 1 = .ok (.aload_n 1, 1) := by decide +kernel
theorem dX3_lay_2 : decode cX3_lay 2 = .ok (.invokevirtual 22, 3) := by decide +kernel
theorem dX3_lay_5 : decode cX3_lay 5 = .ok (.aload_n 0, 1) := by decide +kernel
theorem dX3_lay_6 : decode cX3_lay 6 = .ok (.iconst 0, 1) := by decide +kernel
theorem dX3_lay_7 : decode cX3_lay 7 = .ok (.putfield 26, 3) := by decide +kernel
theorem dX3_lay_10 : decode cX3_lay 10 = .ok (.aload_n 0, 1) := by decide +kernel
theorem dX3_lay_11 : decode cX3_lay 11 = .ok (.aload_n 1, 1) := by decide +kernel
theorem dX3_lay_12 : decode cX3_lay 12 = .ok (.iconst 1, 1) := by decide +kernel
theorem dX3_lay_13 : decode cX3_lay 13 = .ok (.invokevirtual 30, 3) := by decide +kernel
theorem dX3_lay_16 : decode cX3_lay 16 = .ok (.putfield 36, 3) := by decide +kernel
theorem dX3_lay_19 : decode cX3_lay 19 = .ok (.iconst 0, 1) := by decide +kernel
theorem dX3_lay_20 : decode cX3_lay 20 = .ok (.istore_n 2, 1) := by decide +kernel
theorem dX3_lay_21 : decode cX3_lay 21 = .ok (.iload_n 2, 1) := by decide +kernel
theorem dX3_lay_22 : decode cX3_lay 22 = .ok (.aload_n 0, 1) := by decide +kernel
theorem dX3_lay_23 : decode cX3_lay 23 = .ok (.getfield 12, 3) := by decide +kernel
theorem dX3_lay_26 : decode cX3_lay 26 = .ok (.invokevirtual 39, 3) := by decide +kernel
theorem dX3_lay_29 : decode cX3_lay 29 = .ok (.if_icmp .ge 94, 3) := by decide +kernel
theorem dX3_lay_32 : decode cX3_lay 32 = .ok (.aload_n 0, 1) := by decide +kernel
theorem dX3_lay_33 : decode cX3_lay 33 = .ok (.getfield 26, 3) := by decide +kernel
theorem dX3_lay_36 : decode cX3_lay 36 = .ok (.bipush 20, 2) := by decide +kernel
theorem dX3_lay_38 : decode cX3_lay 38 = .ok (.if_icmp .ge 85, 3) := by decide +kernel
theorem dX3_lay_41 : decode cX3_lay 41 = .ok (.aload_n 0, 1) := by decide +kernel
theorem dX3_lay_42 : decode cX3_lay 42 = .ok (.getfield 12, 3) := by decide +kernel
theorem dX3_lay_45 : decode cX3_lay 45 = .ok (.iload_n 2, 1) := by decide +kernel
theorem dX3_lay_46 : decode cX3_lay 46 = .ok (.invokevirtual 42, 3) := by decide +kernel
theorem dX3_lay_49 : decode cX3_lay 49 = .ok (.istore_n 3, 1) := by decide +kernel
theorem dX3_lay_50 : decode cX3_lay 50 = .ok (.aload_n 1, 1) := by decide +kernel
theorem dX3_lay_51 : decode cX3_lay 51 = .ok (.iload_n 3, 1) := by decide +kernel
theorem dX3_lay_52 : decode cX3_lay 52 = .ok (.invokevirtual 45, 3) := by decide +kernel
theorem dX3_lay_55 : decode cX3_lay 55 = .ok (.astore 4, 2) := by decide +kernel
theorem dX3_lay_57 : decode cX3_lay 57 = .ok (.aload 4, 2) := by decide +kernel
theorem dX3_lay_59 : decode cX3_lay 59 = .ok (.ifnull 58, 3) := by decide +kernel
theorem dX3_lay_62 : decode cX3_lay 62 = .ok (.aload_n 1, 1) := by decide +kernel
theorem dX3_lay_63 : decode cX3_lay 63 = .ok (.aload 4, 2) := by decide +kernel
theorem dX3_lay_65 : decode cX3_lay 65 = .ok (.invokevirtual 49, 3) := by decide +kernel
theorem dX3_lay_68 : decode cX3_lay 68 = .ok (.ifCond .eq 49, 3) := by decide +kernel
theorem dX3_lay_71 : decode cX3_lay 71 = .ok (.aload 4, 2) := by decide +kernel
theorem dX3_lay_73 : decode cX3_lay 73 = .ok (.invokevirtual 53, 3) := by decide +kernel
theorem dX3_lay_76 : decode cX3_lay 76 = .ok (.aload_n 0, 1) := by decide +kernel
theorem dX3_lay_77 : decode cX3_lay 77 = .ok (.getfield 36, 3) := by decide +kernel
theorem dX3_lay_80 : decode cX3_lay 80 = .ok (.if_icmp .gt 37, 3) := by decide +kernel
theorem dX3_lay_83 : decode cX3_lay 83 = .ok (.aload_n 0, 1) := by decide +kernel
theorem dX3_lay_84 : decode cX3_lay 84 = .ok (.dup, 1) := by decide +kernel
theorem dX3_lay_85 : decode cX3_lay 85 = .ok (.getfield 36, 3) := by decide +kernel
theorem dX3_lay_88 : decode cX3_lay 88 = .ok (.aload 4, 2) := by decide +kernel
theorem dX3_lay_90 : decode cX3_lay 90 = .ok (.invokevirtual 53, 3) := by decide +kernel
theorem dX3_lay_93 : decode cX3_lay 93 = .ok (.isub, 1) := by decide +kernel
theorem dX3_lay_94 : decode cX3_lay 94 = .ok (.putfield 36, 3) := by decide +kernel
theorem dX3_lay_97 : decode cX3_lay 97 = .ok (.aload_n 0, 1) := by decide +kernel
theorem dX3_lay_98 : decode cX3_lay 98 = .ok (.getfield 18, 3) := by decide +kernel
theorem dX3_lay_101 : decode cX3_lay 101 = .ok (.aload_n 0, 1) := by decide +kernel
theorem dX3_lay_102 : decode cX3_lay 102 = .ok (.getfield 26, 3) := by decide +kernel
theorem dX3_lay_105 : decode cX3_lay 105 = .ok (.iload_n 3, 1) := by decide +kernel
theorem dX3_lay_106 : decode cX3_lay 106 = .ok (.iastore, 1) := by decide +kernel
theorem dX3_lay_107 : decode cX3_lay 107 = .ok (.aload_n 0, 1) := by decide +kernel
theorem dX3_lay_108 : decode cX3_lay 108 = .ok (.dup, 1) := by decide +kernel
theorem dX3_lay_109 : decode cX3_lay 109 = .ok (.getfield 26, 3) := by decide +kernel
theorem dX3_lay_112 : decode cX3_lay 112 = .ok (.iconst 1, 1) := by decide +kernel
theorem dX3_lay_113 : decode cX3_lay 113 = .ok (.iadd, 1) := by decide +kernel
theorem dX3_lay_114 : decode cX3_lay 114 = .ok (.putfield 26, 3) := by decide +kernel
theorem dX3_lay_117 : decode cX3_lay 117 = .ok (.iinc 2 1, 3) := by decide +kernel
theorem dX3_lay_120 : decode cX3_lay 120 = .ok (.goto (-99), 3) := by decide +kernel
theorem dX3_lay_123 : decode cX3_lay 123 = .ok (.return_, 1) := by decide +kernel
theorem dX3_size_0 : decode cX3_size 0 = .ok (.aload_n 0, 1) := by decide +kernel
theorem dX3_size_1 : decode cX3_size 1 = .ok (.getfield 26, 3) := by decide +kernel
theorem dX3_size_4 : decode cX3_size 4 = .ok (.ireturn, 1) := by decide +kernel
theorem dX3_linesFree_0 : decode cX3_linesFree 0 = .ok (.aload_n 0, 1) := by decide +kernel
theorem dX3_linesFree_1 : decode cX3_linesFree 1 = .ok (.getfield 36, 3) := by decide +kernel
theorem dX3_linesFree_4 : decode cX3_linesFree 4 = .ok (.ireturn, 1) := by decide +kernel
theorem dX3_queueDead_0 : decode cX3_queueDead 0 = .ok (.aload_n 0, 1) := by decide +kernel
theorem dX3_queueDead_1 : decode cX3_queueDead 1 = .ok (.getfield 12, 3) := by decide +kernel
theorem dX3_queueDead_4 : decode cX3_queueDead 4 = .ok (.invokevirtual 58, 3) := by decide +kernel
theorem dX3_queueDead_7 : decode cX3_queueDead 7 = .ok (.iconst 0, 1) := by decide +kernel
theorem dX3_queueDead_8 : decode cX3_queueDead 8 = .ok (.istore_n 2, 1) := by decide +kernel
theorem dX3_queueDead_9 : decode cX3_queueDead 9 = .ok (.iload_n 2, 1) := by decide +kernel
theorem dX3_queueDead_10 : decode cX3_queueDead 10 = .ok (.aload_n 1, 1) := by decide +kernel
theorem dX3_queueDead_11 : decode cX3_queueDead 11 = .ok (.invokevirtual 61, 3) := by decide +kernel
theorem dX3_queueDead_14 : decode cX3_queueDead 14 = .ok (.if_icmp .ge 56, 3) := by decide +kernel
theorem dX3_queueDead_17 : decode cX3_queueDead 17 = .ok (.aload_n 1, 1) := by decide +kernel
theorem dX3_queueDead_18 : decode cX3_queueDead 18 = .ok (.iload_n 2, 1) := by decide +kernel
theorem dX3_queueDead_19 : decode cX3_queueDead 19 = .ok (.invokevirtual 45, 3) := by decide +kernel
theorem dX3_queueDead_22 : decode cX3_queueDead 22 = .ok (.astore_n 3, 1) := by decide +kernel
theorem dX3_queueDead_23 : decode cX3_queueDead 23 = .ok (.aload_n 3, 1) := by decide +kernel
theorem dX3_queueDead_24 : decode cX3_queueDead 24 = .ok (.ifnull 40, 3) := by decide +kernel
theorem dX3_queueDead_27 : decode cX3_queueDead 27 = .ok (.aload_n 3, 1) := by decide +kernel
theorem dX3_queueDead_28 : decode cX3_queueDead 28 = .ok (.iconst 2, 1) := by decide +kernel
theorem dX3_queueDead_29 : decode cX3_queueDead 29 = .ok (.invokevirtual 63, 3) := by decide +kernel
theorem dX3_queueDead_32 : decode cX3_queueDead 32 = .ok (.ifCond .eq 32, 3) := by decide +kernel
theorem dX3_queueDead_35 : decode cX3_queueDead 35 = .ok (.sipush 9999, 3) := by decide +kernel
theorem dX3_queueDead_38 : decode cX3_queueDead 38 = .ok (.aload_n 3, 1) := by decide +kernel
theorem dX3_queueDead_39 : decode cX3_queueDead 39 = .ok (.invokevirtual 67, 3) := by decide +kernel
theorem dX3_queueDead_42 : decode cX3_queueDead 42 = .ok (.isub, 1) := by decide +kernel
theorem dX3_queueDead_43 : decode cX3_queueDead 43 = .ok (.istore 4, 2) := by decide +kernel
theorem dX3_queueDead_45 : decode cX3_queueDead 45 = .ok (.aload_n 0, 1) := by decide +kernel
theorem dX3_queueDead_46 : decode cX3_queueDead 46 = .ok (.getfield 12, 3) := by decide +kernel
theorem dX3_queueDead_49 : decode cX3_queueDead 49 = .ok (.iload_n 2, 1) := by decide +kernel
theorem dX3_queueDead_50 : decode cX3_queueDead 50 = .ok (.aload_n 3, 1) := by decide +kernel
theorem dX3_queueDead_51 : decode cX3_queueDead 51 = .ok (.invokevirtual 70, 3) := by decide +kernel
theorem dX3_queueDead_54 : decode cX3_queueDead 54 = .ok (.sipush 10000, 3) := by decide +kernel
theorem dX3_queueDead_57 : decode cX3_queueDead 57 = .ok (.imul, 1) := by decide +kernel
theorem dX3_queueDead_58 : decode cX3_queueDead 58 = .ok (.iload 4, 2) := by decide +kernel
theorem dX3_queueDead_60 : decode cX3_queueDead 60 = .ok (.iadd, 1) := by decide +kernel
theorem dX3_queueDead_61 : decode cX3_queueDead 61 = .ok (.invokevirtual 73, 3) := by decide +kernel
theorem dX3_queueDead_64 : decode cX3_queueDead 64 = .ok (.iinc 2 1, 3) := by decide +kernel
theorem dX3_queueDead_67 : decode cX3_queueDead 67 = .ok (.goto (-58), 3) := by decide +kernel
theorem dX3_queueDead_70 : decode cX3_queueDead 70 = .ok (.return_, 1) := by decide +kernel
theorem dX3_personAt_0 : decode cX3_personAt 0 = .ok (.iload_n 1, 1) := by decide +kernel
theorem dX3_personAt_1 : decode cX3_personAt 1 = .ok (.ifCond .lt 26, 3) := by decide +kernel
theorem dX3_personAt_4 : decode cX3_personAt 4 = .ok (.iload_n 1, 1) := by decide +kernel
theorem dX3_personAt_5 : decode cX3_personAt 5 = .ok (.aload_n 0, 1) := by decide +kernel
theorem dX3_personAt_6 : decode cX3_personAt 6 = .ok (.getfield 26, 3) := by decide +kernel
theorem dX3_personAt_9 : decode cX3_personAt 9 = .ok (.if_icmp .ge 18, 3) := by decide +kernel
theorem dX3_personAt_12 : decode cX3_personAt 12 = .ok (.iload_n 1, 1) := by decide +kernel
theorem dX3_personAt_13 : decode cX3_personAt 13 = .ok (.bipush 20, 2) := by decide +kernel
theorem dX3_personAt_15 : decode cX3_personAt 15 = .ok (.if_icmp .ge 12, 3) := by decide +kernel
theorem dX3_personAt_18 : decode cX3_personAt 18 = .ok (.aload_n 0, 1) := by decide +kernel
theorem dX3_personAt_19 : decode cX3_personAt 19 = .ok (.getfield 18, 3) := by decide +kernel
theorem dX3_personAt_22 : decode cX3_personAt 22 = .ok (.iload_n 1, 1) := by decide +kernel
theorem dX3_personAt_23 : decode cX3_personAt 23 = .ok (.iaload, 1) := by decide +kernel
theorem dX3_personAt_24 : decode cX3_personAt 24 = .ok (.goto 5, 3) := by decide +kernel
theorem dX3_personAt_27 : decode cX3_personAt 27 = .ok (.bipush (-5), 2) := by decide +kernel
theorem dX3_personAt_29 : decode cX3_personAt 29 = .ok (.ireturn, 1) := by decide +kernel
theorem dX4_init_0 : decode cX4_init 0 = .ok (.aload_n 0, 1) := by decide +kernel
theorem dX4_init_1 : decode cX4_init 1 = .ok (.invokespecial 3, 3) := by decide +kernel
theorem dX4_init_4 : decode cX4_init 4 = .ok (.aload_n 0, 1) := by decide +kernel
theorem dX4_init_5 : decode cX4_init 5 = .ok (.bipush 60, 2) := by decide +kernel
theorem dX4_init_7 : decode cX4_init 7 = .ok (.newarray .char, 2) := by decide +kernel
theorem dX4_init_9 : decode cX4_init 9 = .ok (.putfield 9, 3) := by decide +kernel
theorem dX4_init_12 : decode cX4_init 12 = .ok (.aload_n 0, 1) := by decide +kernel
theorem dX4_init_13 : decode cX4_init 13 = .ok (.bipush 15, 2) := by decide +kernel
theorem dX4_init_15 : decode cX4_init 15 = .ok (.anewarray 15, 3) := by decide +kernel
theorem dX4_init_18 : decode cX4_init 18 = .ok (.putfield 17, 3) := by decide +kernel
theorem dX4_init_21 : decode cX4_init 21 = .ok (.iconst 0, 1) := by decide +kernel
theorem dX4_init_22 : decode cX4_init 22 = .ok (.istore_n 1, 1) := by decide +kernel
theorem dX4_init_23 : decode cX4_init 23 = .ok (.iload_n 1, 1) := by decide +kernel
theorem dX4_init_24 : decode cX4_init 24 = .ok (.bipush 15, 2) := by decide +kernel
theorem dX4_init_26 : decode cX4_init 26 = .ok (.if_icmp .ge 22, 3) := by decide +kernel
theorem dX4_init_29 : decode cX4_init 29 = .ok (.aload_n 0, 1) := by decide +kernel
theorem dX4_init_30 : decode cX4_init 30 = .ok (.getfield 17, 3) := by decide +kernel
theorem dX4_init_33 : decode cX4_init 33 = .ok (.iload_n 1, 1) := by decide +kernel
theorem dX4_init_34 : decode cX4_init 34 = .ok (.new 15, 3) := by decide +kernel
theorem dX4_init_37 : decode cX4_init 37 = .ok (.dup, 1) := by decide +kernel
theorem dX4_init_38 : decode cX4_init 38 = .ok (.invokespecial 21, 3) := by decide +kernel
theorem dX4_init_41 : decode cX4_init 41 = .ok (.aastore, 1) := by decide +kernel
theorem dX4_init_42 : decode cX4_init 42 = .ok (.iinc 1 1, 3) := by decide +kernel
theorem dX4_init_45 : decode cX4_init 45 = .ok (.goto (-22), 3) := by decide +kernel
theorem dX4_init_48 : decode cX4_init 48 = .ok (.return_, 1) := by decide +kernel
theorem dX4_length_0 : decode cX4_length 0 = .ok (.aload_n 0, 1) := by decide +kernel
theorem dX4_length_1 : decode cX4_length 1 = .ok (.getfield 22, 3) := by decide +kernel
theorem dX4_length_4 : decode cX4_length 4 = .ok (.ireturn, 1) := by decide +kernel
theorem dX4_append_0 : decode cX4_append 0 = .ok (.aload_n 0, 1) := by decide +kernel
theorem dX4_append_1 : decode cX4_append 1 = .ok (.getfield 22, 3) := by decide +kernel
theorem dX4_append_4 : decode cX4_append 4 = .ok (.ifCond .lt 12, 3) := by decide +kernel
theorem dX4_append_7 : decode cX4_append 7 = .ok (.aload_n 0, 1) := by decide +kernel
theorem dX4_append_8 : decode cX4_append 8 = .ok (.getfield 22, 3) := by decide +kernel
theorem dX4_append_11 : decode cX4_append 11 = .ok (.bipush 60, 2) := by decide +kernel
theorem dX4_append_13 : decode cX4_append 13 = .ok (.if_icmp .lt 5, 3) := by decide +kernel
theorem dX4_append_16 : decode cX4_append 16 = .ok (.iconst 0, 1) := by decide +kernel
theorem dX4_append_17 : decode cX4_append 17 = .ok (.ireturn, 1) := by decide +kernel
theorem dX4_append_18 : decode cX4_append 18 = .ok (.aload_n 0, 1) := by decide +kernel
theorem dX4_append_19 : decode cX4_append 19 = .ok (.getfield 9, 3) := by decide +kernel
theorem dX4_append_22 : decode cX4_append 22 = .ok (.aload_n 0, 1) := by decide +kernel
theorem dX4_append_23 : decode cX4_append 23 = .ok (.getfield 22, 3) := by decide +kernel
theorem dX4_append_26 : decode cX4_append 26 = .ok (.iload_n 1, 1) := by decide +kernel
theorem dX4_append_27 : decode cX4_append 27 = .ok (.castore, 1) := by decide +kernel
theorem dX4_append_28 : decode cX4_append 28 = .ok (.aload_n 0, 1) := by decide +kernel
theorem dX4_append_29 : decode cX4_append 29 = .ok (.dup, 1) := by decide +kernel
theorem dX4_append_30 : decode cX4_append 30 = .ok (.getfield 22, 3) := by decide +kernel
theorem dX4_append_33 : decode cX4_append 33 = .ok (.iconst 1, 1) := by decide +kernel
theorem dX4_append_34 : decode cX4_append 34 = .ok (.iadd, 1) := by decide +kernel
theorem dX4_append_35 : decode cX4_append 35 = .ok (.putfield 22, 3) := by decide +kernel
theorem dX4_append_38 : decode cX4_append 38 = .ok (.iconst 1, 1) := by decide +kernel
theorem dX4_append_39 : decode cX4_append 39 = .ok (.ireturn, 1) := by decide +kernel
theorem dX4_clear_0 : decode cX4_clear 0 = .ok (.aload_n 0, 1) := by decide +kernel
theorem dX4_clear_1 : decode cX4_clear 1 = .ok (.iconst 0, 1) := by decide +kernel
theorem dX4_clear_2 : decode cX4_clear 2 = .ok (.putfield 22, 3) := by decide +kernel
theorem dX4_clear_5 : decode cX4_clear 5 = .ok (.return_, 1) := by decide +kernel
theorem dX4_fault_0 : decode cX4_fault 0 = .ok (.aload_n 0, 1) := by decide +kernel
theorem dX4_fault_1 : decode cX4_fault 1 = .ok (.getfield 26, 3) := by decide +kernel
theorem dX4_fault_4 : decode cX4_fault 4 = .ok (.ireturn, 1) := by decide +kernel
theorem dX4_personsRead_0 : decode cX4_personsRead 0 = .ok (.aload_n 0, 1) := by decide +kernel
theorem dX4_personsRead_1 : decode cX4_personsRead 1 = .ok (.getfield 29, 3) := by decide +kernel
theorem dX4_personsRead_4 : decode cX4_personsRead 4 = .ok (.ireturn, 1) := by decide +kernel
theorem dX4_readLife_0 : decode cX4_readLife 0 = .ok (.iload_n 1, 1) := by decide +kernel
theorem dX4_readLife_1 : decode cX4_readLife 1 = .ok (.ifCond .lt 17, 3) := by decide +kernel
theorem dX4_readLife_4 : decode cX4_readLife 4 = .ok (.iload_n 1, 1) := by decide +kernel
theorem dX4_readLife_5 : decode cX4_readLife 5 = .ok (.aload_n 0, 1) := by decide +kernel
theorem dX4_readLife_6 : decode cX4_readLife 6 = .ok (.getfield 29, 3) := by decide +kernel
theorem dX4_readLife_9 : decode cX4_readLife 9 = .ok (.if_icmp .ge 9, 3) := by decide +kernel
theorem dX4_readLife_12 : decode cX4_readLife 12 = .ok (.iload_n 1, 1) := by decide +kernel
theorem dX4_readLife_13 : decode cX4_readLife 13 = .ok (.bipush 15, 2) := by decide +kernel
theorem dX4_readLife_15 : decode cX4_readLife 15 = .ok (.if_icmp .lt 5, 3) := by decide +kernel
theorem dX4_readLife_18 : decode cX4_readLife 18 = .ok (.aconst_null, 1) := by decide +kernel
theorem dX4_readLife_19 : decode cX4_readLife 19 = .ok (.areturn, 1) := by decide +kernel
theorem dX4_readLife_20 : decode cX4_readLife 20 = .ok (.aload_n 0, 1) := by decide +kernel
theorem dX4_readLife_21 : decode cX4_readLife 21 = .ok (.getfield 17, 3) := by decide +kernel
theorem dX4_readLife_24 : decode cX4_readLife 24 = .ok (.iload_n 1, 1) := by decide +kernel
theorem dX4_readLife_25 : decode cX4_readLife 25 = .ok (.aaload, 1) := by decide +kernel
theorem dX4_readLife_26 : decode cX4_readLife 26 = .ok (.areturn, 1) := by decide +kernel
theorem dX4_readPersons_0 : decode cX4_readPersons 0 = .ok (.aload_n 0, 1) := by decide +kernel
theorem dX4_readPersons_1 : decode cX4_readPersons 1 = .ok (.iconst 0, 1) := by decide +kernel
theorem dX4_readPersons_2 : decode cX4_readPersons 2 = .ok (.putfield 26, 3) := by decide +kernel
theorem dX4_readPersons_5 : decode cX4_readPersons 5 = .ok (.aload_n 0, 1) := by decide +kernel
theorem dX4_readPersons_6 : decode cX4_readPersons 6 = .ok (.iconst 0, 1) := by decide +kernel
theorem dX4_readPersons_7 : decode cX4_readPersons 7 = .ok (.putfield 29, 3) := by decide +kernel
theorem dX4_readPersons_10 : decode cX4_readPersons 10 = .ok (.iconst 1, 1) := by decide +kernel
theorem dX4_readPersons_11 : decode cX4_readPersons 11 = .ok (.istore_n 2, 1) := by decide +kernel
theorem dX4_readPersons_12 : decode cX4_readPersons 12 = .ok (.iload_n 2, 1) := by decide +kernel
theorem dX4_readPersons_13 : decode cX4_readPersons 13 = .ok (.ifCond .eq 52, 3) := by decide +kernel
theorem dX4_readPersons_16 : decode cX4_readPersons 16 = .ok (.aload_n 0, 1) := by decide +kernel
theorem dX4_readPersons_17 : decode cX4_readPersons 17 = .ok (.getfield 29, 3) := by decide +kernel
theorem dX4_readPersons_20 : decode cX4_readPersons 20 = .ok (.bipush 15, 2) := by decide +kernel
theorem dX4_readPersons_22 : decode cX4_readPersons 22 = .ok (.if_icmp .ge 43, 3) := by decide +kernel
theorem dX4_readPersons_25 : decode cX4_readPersons 25 = .ok (.aload_n 0, 1) := by decide +kernel
theorem dX4_readPersons_26 : decode cX4_readPersons 26 = .ok (.dup, 1) := by decide +kernel
theorem dX4_readPersons_27 : decode cX4_readPersons 27 = .ok (.getfield 29, 3) := by decide +kernel
theorem dX4_readPersons_30 : decode cX4_readPersons 30 = .ok (.iconst 1, 1) := by decide +kernel
theorem dX4_readPersons_31 : decode cX4_readPersons 31 = .ok (.iadd, 1) := by decide +kernel
theorem dX4_readPersons_32 : decode cX4_readPersons 32 = .ok (.putfield 29, 3) := by decide +kernel
theorem dX4_readPersons_35 : decode cX4_readPersons 35 = .ok (.aload_n 0, 1) := by decide +kernel
theorem dX4_readPersons_36 : decode cX4_readPersons 36 = .ok (.aload_n 0, 1) := by decide +kernel
theorem dX4_readPersons_37 : decode cX4_readPersons 37 = .ok (.aload_n 0, 1) := by decide +kernel
theorem dX4_readPersons_38 : decode cX4_readPersons 38 = .ok (.getfield 29, 3) := by decide +kernel
theorem dX4_readPersons_41 : decode cX4_readPersons 41 = .ok (.iconst 1, 1) := by decide +kernel
theorem dX4_readPersons_42 : decode cX4_readPersons 42 = .ok (.isub, 1) := by decide +kernel
theorem dX4_readPersons_43 : decode cX4_readPersons 43 = .ok (.invokevirtual 32, 3) := by decide +kernel
theorem dX4_readPersons_46 : decode cX4_readPersons 46 = .ok (.iload_n 1, 1) := by decide +kernel
theorem dX4_readPersons_47 : decode cX4_readPersons 47 = .ok (.invokevirtual 36, 3) := by decide +kernel
theorem dX4_readPersons_50 : decode cX4_readPersons 50 = .ok (.ifCond .ne 5, 3) := by decide +kernel
theorem dX4_readPersons_53 : decode cX4_readPersons 53 = .ok (.iconst 0, 1) := by decide +kernel
theorem dX4_readPersons_54 : decode cX4_readPersons 54 = .ok (.ireturn, 1) := by decide +kernel
theorem dX4_readPersons_55 : decode cX4_readPersons 55 = .ok (.aload_n 0, 1) := by decide +kernel
theorem dX4_readPersons_56 : decode cX4_readPersons 56 = .ok (.bipush 59, 2) := by decide +kernel
theorem dX4_readPersons_58 : decode cX4_readPersons 58 = .ok (.invokevirtual 40, 3) := by decide +kernel
theorem dX4_readPersons_61 : decode cX4_readPersons 61 = .ok (.istore_n 2, 1) := by decide +kernel
theorem dX4_readPersons_62 : decode cX4_readPersons 62 = .ok (.goto (-50), 3) := by decide +kernel
theorem dX4_readPersons_65 : decode cX4_readPersons 65 = .ok (.iload_n 2, 1) := by decide +kernel
theorem dX4_readPersons_66 : decode cX4_readPersons 66 = .ok (.ifCond .ne 18, 3) := by decide +kernel
theorem dX4_readPersons_69 : decode cX4_readPersons 69 = .ok (.aload_n 0, 1) := by decide +kernel
theorem dX4_readPersons_70 : decode cX4_readPersons 70 = .ok (.getfield 26, 3) := by decide +kernel
theorem dX4_readPersons_73 : decode cX4_readPersons 73 = .ok (.aload_n 0, 1) := by decide +kernel
theorem dX4_readPersons_74 : decode cX4_readPersons 74 = .ok (.getfield 22, 3) := by decide +kernel
theorem dX4_readPersons_77 : decode cX4_readPersons 77 = .ok (.if_icmp .ne 7, 3) := by decide +kernel
theorem dX4_readPersons_80 : decode cX4_readPersons 80 = .ok (.iconst 1, 1) := by decide +kernel
theorem dX4_readPersons_81 : decode cX4_readPersons 81 = .ok (.goto 4, 3) := by decide +kernel
theorem dX4_readPersons_84 : decode cX4_readPersons 84 = .ok (.iconst 0, 1) := by decide +kernel
theorem dX4_readPersons_85 : decode cX4_readPersons 85 = .ok (.ireturn, 1) := by decide +kernel
theorem dX4_readPerson_0 : decode cX4_readPerson 0 = .ok (.aload_n 0, 1) := by decide +kernel
theorem dX4_readPerson_1 : decode cX4_readPerson 1 = .ok (.invokevirtual 44, 3) := by decide +kernel
theorem dX4_readPerson_4 : decode cX4_readPerson 4 = .ok (.istore_n 3, 1) := by decide +kernel
theorem dX4_readPerson_5 : decode cX4_readPerson 5 = .ok (.aload_n 1, 1) := by decide +kernel
theorem dX4_readPerson_6 : decode cX4_readPerson 6 = .ok (.ifnull 18, 3) := by decide +kernel
theorem dX4_readPerson_9 : decode cX4_readPerson 9 = .ok (.iload_n 3, 1) := by decide +kernel
theorem dX4_readPerson_10 : decode cX4_readPerson 10 = .ok (.bipush (-5), 2) := by decide +kernel
theorem dX4_readPerson_12 : decode cX4_readPerson 12 = .ok (.if_icmp .eq 12, 3) := by decide +kernel
theorem dX4_readPerson_15 : decode cX4_readPerson 15 = .ok (.aload_n 0, 1) := by decide +kernel
theorem dX4_readPerson_16 : decode cX4_readPerson 16 = .ok (.bipush 114, 2) := by decide +kernel
theorem dX4_readPerson_18 : decode cX4_readPerson 18 = .ok (.invokevirtual 40, 3) := by decide +kernel
theorem dX4_readPerson_21 : decode cX4_readPerson 21 = .ok (.ifCond .ne 5, 3) := by decide +kernel
theorem dX4_readPerson_24 : decode cX4_readPerson 24 = .ok (.iconst 0, 1) := by decide +kernel
theorem dX4_readPerson_25 : decode cX4_readPerson 25 = .ok (.ireturn, 1) := by decide +kernel
theorem dX4_readPerson_26 : decode cX4_readPerson 26 = .ok (.aload_n 0, 1) := by decide +kernel
theorem dX4_readPerson_27 : decode cX4_readPerson 27 = .ok (.iconst 1, 1) := by decide +kernel
theorem dX4_readPerson_28 : decode cX4_readPerson 28 = .ok (.bipush 9, 2) := by decide +kernel
theorem dX4_readPerson_30 : decode cX4_readPerson 30 = .ok (.invokevirtual 48, 3) := by decide +kernel
theorem dX4_readPerson_33 : decode cX4_readPerson 33 = .ok (.istore 4, 2) := by decide +kernel
theorem dX4_readPerson_35 : decode cX4_readPerson 35 = .ok (.iload 4, 2) := by decide +kernel
theorem dX4_readPerson_37 : decode cX4_readPerson 37 = .ok (.bipush (-5), 2) := by decide +kernel
theorem dX4_readPerson_39 : decode cX4_readPerson 39 = .ok (.if_icmp .ne 5, 3) := by decide +kernel
theorem dX4_readPerson_42 : decode cX4_readPerson 42 = .ok (.iconst 0, 1) := by decide +kernel
theorem dX4_readPerson_43 : decode cX4_readPerson 43 = .ok (.ireturn, 1) := by decide +kernel
theorem dX4_readPerson_44 : decode cX4_readPerson 44 = .ok (.aload_n 1, 1) := by decide +kernel
theorem dX4_readPerson_45 : decode cX4_readPerson 45 = .ok (.iload_n 3, 1) := by decide +kernel
theorem dX4_readPerson_46 : decode cX4_readPerson 46 = .ok (.iload 4, 2) := by decide +kernel
theorem dX4_readPerson_48 : decode cX4_readPerson 48 = .ok (.invokevirtual 52, 3) := by decide +kernel
theorem dX4_readPerson_51 : decode cX4_readPerson 51 = .ok (.iconst 0, 1) := by decide +kernel
theorem dX4_readPerson_52 : decode cX4_readPerson 52 = .ok (.istore 5, 2) := by decide +kernel
theorem dX4_readPerson_54 : decode cX4_readPerson 54 = .ok (.iload 5, 2) := by decide +kernel
theorem dX4_readPerson_56 : decode cX4_readPerson 56 = .ok (.bipush 8, 2) := by decide +kernel
theorem dX4_readPerson_58 : decode cX4_readPerson 58 = .ok (.if_icmp .ge 29, 3) := by decide +kernel
theorem dX4_readPerson_61 : decode cX4_readPerson 61 = .ok (.aload_n 0, 1) := by decide +kernel
theorem dX4_readPerson_62 : decode cX4_readPerson 62 = .ok (.bipush 44, 2) := by decide +kernel
theorem dX4_readPerson_64 : decode cX4_readPerson 64 = .ok (.invokevirtual 40, 3) := by decide +kernel
theorem dX4_readPerson_67 : decode cX4_readPerson 67 = .ok (.ifCond .eq 20, 3) := by decide +kernel
theorem dX4_readPerson_70 : decode cX4_readPerson 70 = .ok (.aload_n 0, 1) := by decide +kernel
theorem dX4_readPerson_71 : decode cX4_readPerson 71 = .ok (.aload_n 1, 1) := by decide +kernel
theorem dX4_readPerson_72 : decode cX4_readPerson 72 = .ok (.iload_n 2, 1) := by decide +kernel
theorem dX4_readPerson_73 : decode cX4_readPerson 73 = .ok (.invokevirtual 56, 3) := by decide +kernel
theorem dX4_readPerson_76 : decode cX4_readPerson 76 = .ok (.ifCond .ne 5, 3) := by decide +kernel
theorem dX4_readPerson_79 : decode cX4_readPerson 79 = .ok (.iconst 0, 1) := by decide +kernel
theorem dX4_readPerson_80 : decode cX4_readPerson 80 = .ok (.ireturn, 1) := by decide +kernel
theorem dX4_readPerson_81 : decode cX4_readPerson 81 = .ok (.iinc 5 1, 3) := by decide +kernel
theorem dX4_readPerson_84 : decode cX4_readPerson 84 = .ok (.goto (-30), 3) := by decide +kernel
theorem dX4_readPerson_87 : decode cX4_readPerson 87 = .ok (.iconst 1, 1) := by decide +kernel
theorem dX4_readPerson_88 : decode cX4_readPerson 88 = .ok (.ireturn, 1) := by decide +kernel
theorem dX4_readFact_0 : decode cX4_readFact 0 = .ok (.aload_n 0, 1) := by decide +kernel
theorem dX4_readFact_1 : decode cX4_readFact 1 = .ok (.iconst 0, 1) := by decide +kernel
theorem dX4_readFact_2 : decode cX4_readFact 2 = .ok (.iconst 5, 1) := by decide +kernel
theorem dX4_readFact_3 : decode cX4_readFact 3 = .ok (.invokevirtual 48, 3) := by decide +kernel
theorem dX4_readFact_6 : decode cX4_readFact 6 = .ok (.istore_n 3, 1) := by decide +kernel
theorem dX4_readFact_7 : decode cX4_readFact 7 = .ok (.iload_n 3, 1) := by decide +kernel
theorem dX4_readFact_8 : decode cX4_readFact 8 = .ok (.bipush (-5), 2) := by decide +kernel
theorem dX4_readFact_10 : decode cX4_readFact 10 = .ok (.if_icmp .eq 12, 3) := by decide +kernel
theorem dX4_readFact_13 : decode cX4_readFact 13 = .ok (.aload_n 0, 1) := by decide +kernel
theorem dX4_readFact_14 : decode cX4_readFact 14 = .ok (.bipush 120, 2) := by decide +kernel
theorem dX4_readFact_16 : decode cX4_readFact 16 = .ok (.invokevirtual 40, 3) := by decide +kernel
theorem dX4_readFact_19 : decode cX4_readFact 19 = .ok (.ifCond .ne 5, 3) := by decide +kernel
theorem dX4_readFact_22 : decode cX4_readFact 22 = .ok (.iconst 0, 1) := by decide +kernel
theorem dX4_readFact_23 : decode cX4_readFact 23 = .ok (.ireturn, 1) := by decide +kernel
theorem dX4_readFact_24 : decode cX4_readFact 24 = .ok (.aload_n 0, 1) := by decide +kernel
theorem dX4_readFact_25 : decode cX4_readFact 25 = .ok (.iconst 1, 1) := by decide +kernel
theorem dX4_readFact_26 : decode cX4_readFact 26 = .ok (.bipush 9, 2) := by decide +kernel
theorem dX4_readFact_28 : decode cX4_readFact 28 = .ok (.invokevirtual 48, 3) := by decide +kernel
theorem dX4_readFact_31 : decode cX4_readFact 31 = .ok (.istore 4, 2) := by decide +kernel
theorem dX4_readFact_33 : decode cX4_readFact 33 = .ok (.iload 4, 2) := by decide +kernel
theorem dX4_readFact_35 : decode cX4_readFact 35 = .ok (.bipush (-5), 2) := by decide +kernel
theorem dX4_readFact_37 : decode cX4_readFact 37 = .ok (.if_icmp .ne 5, 3) := by decide +kernel
theorem dX4_readFact_40 : decode cX4_readFact 40 = .ok (.iconst 0, 1) := by decide +kernel
theorem dX4_readFact_41 : decode cX4_readFact 41 = .ok (.ireturn, 1) := by decide +kernel
theorem dX4_readFact_42 : decode cX4_readFact 42 = .ok (.aload_n 1, 1) := by decide +kernel
theorem dX4_readFact_43 : decode cX4_readFact 43 = .ok (.iload_n 3, 1) := by decide +kernel
theorem dX4_readFact_44 : decode cX4_readFact 44 = .ok (.iload 4, 2) := by decide +kernel
theorem dX4_readFact_46 : decode cX4_readFact 46 = .ok (.iload_n 2, 1) := by decide +kernel
theorem dX4_readFact_47 : decode cX4_readFact 47 = .ok (.invokevirtual 59, 3) := by decide +kernel
theorem dX4_readFact_50 : decode cX4_readFact 50 = .ok (.pop, 1) := by decide +kernel
theorem dX4_readFact_51 : decode cX4_readFact 51 = .ok (.iconst 1, 1) := by decide +kernel
theorem dX4_readFact_52 : decode cX4_readFact 52 = .ok (.ireturn, 1) := by decide +kernel
theorem dX4_takeAge_0 : decode cX4_takeAge 0 = .ok (.aload_n 0, 1) := by decide +kernel
theorem dX4_takeAge_1 : decode cX4_takeAge 1 = .ok (.iconst 0, 1) := by decide +kernel
theorem dX4_takeAge_2 : decode cX4_takeAge 2 = .ok (.bipush 9, 2) := by decide +kernel
theorem dX4_takeAge_4 : decode cX4_takeAge 4 = .ok (.invokevirtual 48, 3) := by decide +kernel
theorem dX4_takeAge_7 : decode cX4_takeAge 7 = .ok (.istore_n 1, 1) := by decide +kernel
theorem dX4_takeAge_8 : decode cX4_takeAge 8 = .ok (.iload_n 1, 1) := by decide +kernel
theorem dX4_takeAge_9 : decode cX4_takeAge 9 = .ok (.ifCond .le 7, 3) := by decide +kernel
theorem dX4_takeAge_12 : decode cX4_takeAge 12 = .ok (.iconst 1, 1) := by decide +kernel
theorem dX4_takeAge_13 : decode cX4_takeAge 13 = .ok (.goto 4, 3) := by decide +kernel
theorem dX4_takeAge_16 : decode cX4_takeAge 16 = .ok (.iconst 0, 1) := by decide +kernel
theorem dX4_takeAge_17 : decode cX4_takeAge 17 = .ok (.istore_n 2, 1) := by decide +kernel
theorem dX4_takeAge_18 : decode cX4_takeAge 18 = .ok (.iconst 1, 1) := by decide +kernel
theorem dX4_takeAge_19 : decode cX4_takeAge 19 = .ok (.istore_n 3, 1) := by decide +kernel
theorem dX4_takeAge_20 : decode cX4_takeAge 20 = .ok (.iload_n 3, 1) := by decide +kernel
theorem dX4_takeAge_21 : decode cX4_takeAge 21 = .ok (.iconst 3, 1) := by decide +kernel
theorem dX4_takeAge_22 : decode cX4_takeAge 22 = .ok (.if_icmp .ge 57, 3) := by decide +kernel
theorem dX4_takeAge_25 : decode cX4_takeAge 25 = .ok (.iload_n 2, 1) := by decide +kernel
theorem dX4_takeAge_26 : decode cX4_takeAge 26 = .ok (.ifCond .eq 53, 3) := by decide +kernel
theorem dX4_takeAge_29 : decode cX4_takeAge 29 = .ok (.aload_n 0, 1) := by decide +kernel
theorem dX4_takeAge_30 : decode cX4_takeAge 30 = .ok (.iconst 0, 1) := by decide +kernel
theorem dX4_takeAge_31 : decode cX4_takeAge 31 = .ok (.bipush 9, 2) := by decide +kernel
theorem dX4_takeAge_33 : decode cX4_takeAge 33 = .ok (.bipush 110, 2) := by decide +kernel
theorem dX4_takeAge_35 : decode cX4_takeAge 35 = .ok (.bipush 10, 2) := by decide +kernel
theorem dX4_takeAge_37 : decode cX4_takeAge 37 = .ok (.iload_n 1, 1) := by decide +kernel
theorem dX4_takeAge_38 : decode cX4_takeAge 38 = .ok (.imul, 1) := by decide +kernel
theorem dX4_takeAge_39 : decode cX4_takeAge 39 = .ok (.isub, 1) := by decide +kernel
theorem dX4_takeAge_40 : decode cX4_takeAge 40 = .ok (.invokestatic 63, 3) := by decide +kernel
theorem dX4_takeAge_43 : decode cX4_takeAge 43 = .ok (.invokevirtual 48, 3) := by decide +kernel
theorem dX4_takeAge_46 : decode cX4_takeAge 46 = .ok (.istore 4, 2) := by decide +kernel
theorem dX4_takeAge_48 : decode cX4_takeAge 48 = .ok (.iload 4, 2) := by decide +kernel
theorem dX4_takeAge_50 : decode cX4_takeAge 50 = .ok (.bipush (-5), 2) := by decide +kernel
theorem dX4_takeAge_52 : decode cX4_takeAge 52 = .ok (.if_icmp .eq 7, 3) := by decide +kernel
theorem dX4_takeAge_55 : decode cX4_takeAge 55 = .ok (.iconst 1, 1) := by decide +kernel
theorem dX4_takeAge_56 : decode cX4_takeAge 56 = .ok (.goto 4, 3) := by decide +kernel
theorem dX4_takeAge_59 : decode cX4_takeAge 59 = .ok (.iconst 0, 1) := by decide +kernel
theorem dX4_takeAge_60 : decode cX4_takeAge 60 = .ok (.istore_n 2, 1) := by decide +kernel
theorem dX4_takeAge_61 : decode cX4_takeAge 61 = .ok (.iload_n 2, 1) := by decide +kernel
theorem dX4_takeAge_62 : decode cX4_takeAge 62 = .ok (.ifCond .eq 11, 3) := by decide +kernel
theorem dX4_takeAge_65 : decode cX4_takeAge 65 = .ok (.bipush 10, 2) := by decide +kernel
theorem dX4_takeAge_67 : decode cX4_takeAge 67 = .ok (.iload_n 1, 1) := by decide +kernel
theorem dX4_takeAge_68 : decode cX4_takeAge 68 = .ok (.imul, 1) := by decide +kernel
theorem dX4_takeAge_69 : decode cX4_takeAge 69 = .ok (.iload 4, 2) := by decide +kernel
theorem dX4_takeAge_71 : decode cX4_takeAge 71 = .ok (.iadd, 1) := by decide +kernel
theorem dX4_takeAge_72 : decode cX4_takeAge 72 = .ok (.istore_n 1, 1) := by decide +kernel
theorem dX4_takeAge_73 : decode cX4_takeAge 73 = .ok (.iinc 3 1, 3) := by decide +kernel
theorem dX4_takeAge_76 : decode cX4_takeAge 76 = .ok (.goto (-56), 3) := by decide +kernel
theorem dX4_takeAge_79 : decode cX4_takeAge 79 = .ok (.iload_n 1, 1) := by decide +kernel
theorem dX4_takeAge_80 : decode cX4_takeAge 80 = .ok (.ireturn, 1) := by decide +kernel
theorem dX4_takeDigit_0 : decode cX4_takeDigit 0 = .ok (.aload_n 0, 1) := by decide +kernel
theorem dX4_takeDigit_1 : decode cX4_takeDigit 1 = .ok (.getfield 26, 3) := by decide +kernel
theorem dX4_takeDigit_4 : decode cX4_takeDigit 4 = .ok (.ifCond .lt 23, 3) := by decide +kernel
theorem dX4_takeDigit_7 : decode cX4_takeDigit 7 = .ok (.aload_n 0, 1) := by decide +kernel
theorem dX4_takeDigit_8 : decode cX4_takeDigit 8 = .ok (.getfield 26, 3) := by decide +kernel
theorem dX4_takeDigit_11 : decode cX4_takeDigit 11 = .ok (.aload_n 0, 1) := by decide +kernel
theorem dX4_takeDigit_12 : decode cX4_takeDigit 12 = .ok (.getfield 22, 3) := by decide +kernel
theorem dX4_takeDigit_15 : decode cX4_takeDigit 15 = .ok (.if_icmp .ge 12, 3) := by decide +kernel
theorem dX4_takeDigit_18 : decode cX4_takeDigit 18 = .ok (.aload_n 0, 1) := by decide +kernel
theorem dX4_takeDigit_19 : decode cX4_takeDigit 19 = .ok (.getfield 26, 3) := by decide +kernel
theorem dX4_takeDigit_22 : decode cX4_takeDigit 22 = .ok (.bipush 60, 2) := by decide +kernel
theorem dX4_takeDigit_24 : decode cX4_takeDigit 24 = .ok (.if_icmp .lt 6, 3) := by decide +kernel
theorem dX4_takeDigit_27 : decode cX4_takeDigit 27 = .ok (.bipush (-5), 2) := by decide +kernel
theorem dX4_takeDigit_29 : decode cX4_takeDigit 29 = .ok (.ireturn, 1) := by decide +kernel
theorem dX4_takeDigit_30 : decode cX4_takeDigit 30 = .ok (.aload_n 0, 1) := by decide +kernel
theorem dX4_takeDigit_31 : decode cX4_takeDigit 31 = .ok (.getfield 9, 3) := by decide +kernel
theorem dX4_takeDigit_34 : decode cX4_takeDigit 34 = .ok (.aload_n 0, 1) := by decide +kernel
theorem dX4_takeDigit_35 : decode cX4_takeDigit 35 = .ok (.getfield 26, 3) := by decide +kernel
theorem dX4_takeDigit_38 : decode cX4_takeDigit 38 = .ok (.caload, 1) := by decide +kernel
theorem dX4_takeDigit_39 : decode cX4_takeDigit 39 = .ok (.bipush 48, 2) := by decide +kernel
theorem dX4_takeDigit_41 : decode cX4_takeDigit 41 = .ok (.isub, 1) := by decide +kernel
theorem dX4_takeDigit_42 : decode cX4_takeDigit 42 = .ok (.istore_n 3, 1) := by decide +kernel
theorem dX4_takeDigit_43 : decode cX4_takeDigit 43 = .ok (.iload_n 3, 1) := by decide +kernel
theorem dX4_takeDigit_44 : decode cX4_takeDigit 44 = .ok (.iload_n 1, 1) := by decide +kernel
theorem dX4_takeDigit_45 : decode cX4_takeDigit 45 = .ok (.iload_n 2, 1) := by decide +kernel
theorem dX4_takeDigit_46 : decode cX4_takeDigit 46 = .ok (.invokestatic 68, 3) := by decide +kernel
theorem dX4_takeDigit_49 : decode cX4_takeDigit 49 = .ok (.ifCond .ne 6, 3) := by decide +kernel
theorem dX4_takeDigit_52 : decode cX4_takeDigit 52 = .ok (.bipush (-5), 2) := by decide +kernel
theorem dX4_takeDigit_54 : decode cX4_takeDigit 54 = .ok (.ireturn, 1) := by decide +kernel
theorem dX4_takeDigit_55 : decode cX4_takeDigit 55 = .ok (.aload_n 0, 1) := by decide +kernel
theorem dX4_takeDigit_56 : decode cX4_takeDigit 56 = .ok (.dup, 1) := by decide +kernel
theorem dX4_takeDigit_57 : decode cX4_takeDigit 57 = .ok (.getfield 26, 3) := by decide +kernel
theorem dX4_takeDigit_60 : decode cX4_takeDigit 60 = .ok (.iconst 1, 1) := by decide +kernel
theorem dX4_takeDigit_61 : decode cX4_takeDigit 61 = .ok (.iadd, 1) := by decide +kernel
theorem dX4_takeDigit_62 : decode cX4_takeDigit 62 = .ok (.putfield 26, 3) := by decide +kernel
theorem dX4_takeDigit_65 : decode cX4_takeDigit 65 = .ok (.iload_n 3, 1) := by decide +kernel
theorem dX4_takeDigit_66 : decode cX4_takeDigit 66 = .ok (.ireturn, 1) := by decide +kernel
theorem dX4_takes_0 : decode cX4_takes 0 = .ok (.aload_n 0, 1) := by decide +kernel
theorem dX4_takes_1 : decode cX4_takes 1 = .ok (.getfield 26, 3) := by decide +kernel
theorem dX4_takes_4 : decode cX4_takes 4 = .ok (.ifCond .lt 36, 3) := by decide +kernel
theorem dX4_takes_7 : decode cX4_takes 7 = .ok (.aload_n 0, 1) := by decide +kernel
theorem dX4_takes_8 : decode cX4_takes 8 = .ok (.getfield 26, 3) := by decide +kernel
theorem dX4_takes_11 : decode cX4_takes 11 = .ok (.aload_n 0, 1) := by decide +kernel
theorem dX4_takes_12 : decode cX4_takes 12 = .ok (.getfield 22, 3) := by decide +kernel
theorem dX4_takes_15 : decode cX4_takes 15 = .ok (.if_icmp .ge 25, 3) := by decide +kernel
theorem dX4_takes_18 : decode cX4_takes 18 = .ok (.aload_n 0, 1) := by decide +kernel
theorem dX4_takes_19 : decode cX4_takes 19 = .ok (.getfield 26, 3) := by decide +kernel
theorem dX4_takes_22 : decode cX4_takes 22 = .ok (.bipush 60, 2) := by decide +kernel
theorem dX4_takes_24 : decode cX4_takes 24 = .ok (.if_icmp .ge 16, 3) := by decide +kernel
theorem dX4_takes_27 : decode cX4_takes 27 = .ok (.aload_n 0, 1) := by decide +kernel
theorem dX4_takes_28 : decode cX4_takes 28 = .ok (.getfield 9, 3) := by decide +kernel
theorem dX4_takes_31 : decode cX4_takes 31 = .ok (.aload_n 0, 1) := by decide +kernel
theorem dX4_takes_32 : decode cX4_takes 32 = .ok (.getfield 26, 3) := by decide +kernel
theorem dX4_takes_35 : decode cX4_takes 35 = .ok (.caload, 1) := by decide +kernel
theorem dX4_takes_36 : decode cX4_takes 36 = .ok (.iload_n 1, 1) := by decide +kernel
theorem dX4_takes_37 : decode cX4_takes 37 = .ok (.if_icmp .eq 5, 3) := by decide +kernel
theorem dX4_takes_40 : decode cX4_takes 40 = .ok (.iconst 0, 1) := by decide +kernel
theorem dX4_takes_41 : decode cX4_takes 41 = .ok (.ireturn, 1) := by decide +kernel
theorem dX4_takes_42 : decode cX4_takes 42 = .ok (.aload_n 0, 1) := by decide +kernel
theorem dX4_takes_43 : decode cX4_takes 43 = .ok (.dup, 1) := by decide +kernel
theorem dX4_takes_44 : decode cX4_takes 44 = .ok (.getfield 26, 3) := by decide +kernel
theorem dX4_takes_47 : decode cX4_takes 47 = .ok (.iconst 1, 1) := by decide +kernel
theorem dX4_takes_48 : decode cX4_takes 48 = .ok (.iadd, 1) := by decide +kernel
theorem dX4_takes_49 : decode cX4_takes 49 = .ok (.putfield 26, 3) := by decide +kernel
theorem dX4_takes_52 : decode cX4_takes 52 = .ok (.iconst 1, 1) := by decide +kernel
theorem dX4_takes_53 : decode cX4_takes 53 = .ok (.ireturn, 1) := by decide +kernel
theorem dX5_init_0 : decode cX5_init 0 = .ok (.aload_n 0, 1) := by decide +kernel
theorem dX5_init_1 : decode cX5_init 1 = .ok (.invokespecial 3, 3) := by decide +kernel
theorem dX5_init_4 : decode cX5_init 4 = .ok (.aload_n 0, 1) := by decide +kernel
theorem dX5_init_5 : decode cX5_init 5 = .ok (.bipush 20, 2) := by decide +kernel
theorem dX5_init_7 : decode cX5_init 7 = .ok (.newarray .int, 2) := by decide +kernel
theorem dX5_init_9 : decode cX5_init 9 = .ok (.putfield 9, 3) := by decide +kernel
theorem dX5_init_12 : decode cX5_init 12 = .ok (.aload_n 0, 1) := by decide +kernel
theorem dX5_init_13 : decode cX5_init 13 = .ok (.bipush 20, 2) := by decide +kernel
theorem dX5_init_15 : decode cX5_init 15 = .ok (.newarray .int, 2) := by decide +kernel
theorem dX5_init_17 : decode cX5_init 17 = .ok (.putfield 15, 3) := by decide +kernel
theorem dX5_init_20 : decode cX5_init 20 = .ok (.return_, 1) := by decide +kernel
theorem dX5_clear_0 : decode cX5_clear 0 = .ok (.aload_n 0, 1) := by decide +kernel
theorem dX5_clear_1 : decode cX5_clear 1 = .ok (.iconst 0, 1) := by decide +kernel
theorem dX5_clear_2 : decode cX5_clear 2 = .ok (.putfield 18, 3) := by decide +kernel
theorem dX5_clear_5 : decode cX5_clear 5 = .ok (.return_, 1) := by decide +kernel
theorem dX5_size_0 : decode cX5_size 0 = .ok (.aload_n 0, 1) := by decide +kernel
theorem dX5_size_1 : decode cX5_size 1 = .ok (.getfield 18, 3) := by decide +kernel
theorem dX5_size_4 : decode cX5_size 4 = .ok (.ireturn, 1) := by decide +kernel
theorem dX5_enter_0 : decode cX5_enter 0 = .ok (.aload_n 0, 1) := by decide +kernel
theorem dX5_enter_1 : decode cX5_enter 1 = .ok (.getfield 18, 3) := by decide +kernel
theorem dX5_enter_4 : decode cX5_enter 4 = .ok (.ifCond .lt 12, 3) := by decide +kernel
theorem dX5_enter_7 : decode cX5_enter 7 = .ok (.aload_n 0, 1) := by decide +kernel
theorem dX5_enter_8 : decode cX5_enter 8 = .ok (.getfield 18, 3) := by decide +kernel
theorem dX5_enter_11 : decode cX5_enter 11 = .ok (.bipush 20, 2) := by decide +kernel
theorem dX5_enter_13 : decode cX5_enter 13 = .ok (.if_icmp .lt 4, 3) := by decide +kernel
theorem dX5_enter_16 : decode cX5_enter 16 = .ok (.return_, 1) := by decide +kernel
theorem dX5_enter_17 : decode cX5_enter 17 = .ok (.aload_n 0, 1) := by decide +kernel
theorem dX5_enter_18 : decode cX5_enter 18 = .ok (.getfield 18, 3) := by decide +kernel
theorem dX5_enter_21 : decode cX5_enter 21 = .ok (.istore_n 3, 1) := by decide +kernel
theorem dX5_enter_22 : decode cX5_enter 22 = .ok (.iload_n 3, 1) := by decide +kernel
theorem dX5_enter_23 : decode cX5_enter 23 = .ok (.ifCond .le 49, 3) := by decide +kernel
theorem dX5_enter_26 : decode cX5_enter 26 = .ok (.aload_n 0, 1) := by decide +kernel
theorem dX5_enter_27 : decode cX5_enter 27 = .ok (.getfield 15, 3) := by decide +kernel
theorem dX5_enter_30 : decode cX5_enter 30 = .ok (.iload_n 3, 1) := by decide +kernel
theorem dX5_enter_31 : decode cX5_enter 31 = .ok (.iconst 1, 1) := by decide +kernel
theorem dX5_enter_32 : decode cX5_enter 32 = .ok (.isub, 1) := by decide +kernel
theorem dX5_enter_33 : decode cX5_enter 33 = .ok (.iaload, 1) := by decide +kernel
theorem dX5_enter_34 : decode cX5_enter 34 = .ok (.iload_n 2, 1) := by decide +kernel
theorem dX5_enter_35 : decode cX5_enter 35 = .ok (.if_icmp .ge 37, 3) := by decide +kernel
theorem dX5_enter_38 : decode cX5_enter 38 = .ok (.aload_n 0, 1) := by decide +kernel
theorem dX5_enter_39 : decode cX5_enter 39 = .ok (.getfield 9, 3) := by decide +kernel
theorem dX5_enter_42 : decode cX5_enter 42 = .ok (.iload_n 3, 1) := by decide +kernel
theorem dX5_enter_43 : decode cX5_enter 43 = .ok (.aload_n 0, 1) := by decide +kernel
theorem dX5_enter_44 : decode cX5_enter 44 = .ok (.getfield 9, 3) := by decide +kernel
theorem dX5_enter_47 : decode cX5_enter 47 = .ok (.iload_n 3, 1) := by decide +kernel
theorem dX5_enter_48 : decode cX5_enter 48 = .ok (.iconst 1, 1) := by decide +kernel
theorem dX5_enter_49 : decode cX5_enter 49 = .ok (.isub, 1) := by decide +kernel
theorem dX5_enter_50 : decode cX5_enter 50 = .ok (.iaload, 1) := by decide +kernel
theorem dX5_enter_51 : decode cX5_enter 51 = .ok (.iastore, 1) := by decide +kernel
theorem dX5_enter_52 : decode cX5_enter 52 = .ok (.aload_n 0, 1) := by decide +kernel
theorem dX5_enter_53 : decode cX5_enter 53 = .ok (.getfield 15, 3) := by decide +kernel
theorem dX5_enter_56 : decode cX5_enter 56 = .ok (.iload_n 3, 1) := by decide +kernel
theorem dX5_enter_57 : decode cX5_enter 57 = .ok (.aload_n 0, 1) := by decide +kernel
theorem dX5_enter_58 : decode cX5_enter 58 = .ok (.getfield 15, 3) := by decide +kernel
theorem dX5_enter_61 : decode cX5_enter 61 = .ok (.iload_n 3, 1) := by decide +kernel
theorem dX5_enter_62 : decode cX5_enter 62 = .ok (.iconst 1, 1) := by decide +kernel
theorem dX5_enter_63 : decode cX5_enter 63 = .ok (.isub, 1) := by decide +kernel
theorem dX5_enter_64 : decode cX5_enter 64 = .ok (.iaload, 1) := by decide +kernel
theorem dX5_enter_65 : decode cX5_enter 65 = .ok (.iastore, 1) := by decide +kernel
theorem dX5_enter_66 : decode cX5_enter 66 = .ok (.iinc 3 (-1), 3) := by decide +kernel
theorem dX5_enter_69 : decode cX5_enter 69 = .ok (.goto (-47), 3) := by decide +kernel
theorem dX5_enter_72 : decode cX5_enter 72 = .ok (.aload_n 0, 1) := by decide +kernel
theorem dX5_enter_73 : decode cX5_enter 73 = .ok (.getfield 9, 3) := by decide +kernel
theorem dX5_enter_76 : decode cX5_enter 76 = .ok (.iload_n 3, 1) := by decide +kernel
theorem dX5_enter_77 : decode cX5_enter 77 = .ok (.iload_n 1, 1) := by decide +kernel
theorem dX5_enter_78 : decode cX5_enter 78 = .ok (.iastore, 1) := by decide +kernel
theorem dX5_enter_79 : decode cX5_enter 79 = .ok (.aload_n 0, 1) := by decide +kernel
theorem dX5_enter_80 : decode cX5_enter 80 = .ok (.getfield 15, 3) := by decide +kernel
theorem dX5_enter_83 : decode cX5_enter 83 = .ok (.iload_n 3, 1) := by decide +kernel
theorem dX5_enter_84 : decode cX5_enter 84 = .ok (.iload_n 2, 1) := by decide +kernel
theorem dX5_enter_85 : decode cX5_enter 85 = .ok (.iastore, 1) := by decide +kernel
theorem dX5_enter_86 : decode cX5_enter 86 = .ok (.aload_n 0, 1) := by decide +kernel
theorem dX5_enter_87 : decode cX5_enter 87 = .ok (.dup, 1) := by decide +kernel
theorem dX5_enter_88 : decode cX5_enter 88 = .ok (.getfield 18, 3) := by decide +kernel
theorem dX5_enter_91 : decode cX5_enter 91 = .ok (.iconst 1, 1) := by decide +kernel
theorem dX5_enter_92 : decode cX5_enter 92 = .ok (.iadd, 1) := by decide +kernel
theorem dX5_enter_93 : decode cX5_enter 93 = .ok (.putfield 18, 3) := by decide +kernel
theorem dX5_enter_96 : decode cX5_enter 96 = .ok (.return_, 1) := by decide +kernel
theorem dX5_personAt_0 : decode cX5_personAt 0 = .ok (.iload_n 1, 1) := by decide +kernel
theorem dX5_personAt_1 : decode cX5_personAt 1 = .ok (.ifCond .lt 26, 3) := by decide +kernel
theorem dX5_personAt_4 : decode cX5_personAt 4 = .ok (.iload_n 1, 1) := by decide +kernel
theorem dX5_personAt_5 : decode cX5_personAt 5 = .ok (.aload_n 0, 1) := by decide +kernel
theorem dX5_personAt_6 : decode cX5_personAt 6 = .ok (.getfield 18, 3) := by decide +kernel
theorem dX5_personAt_9 : decode cX5_personAt 9 = .ok (.if_icmp .ge 18, 3) := by decide +kernel
theorem dX5_personAt_12 : decode cX5_personAt 12 = .ok (.iload_n 1, 1) := by decide +kernel
theorem dX5_personAt_13 : decode cX5_personAt 13 = .ok (.bipush 20, 2) := by decide +kernel
theorem dX5_personAt_15 : decode cX5_personAt 15 = .ok (.if_icmp .ge 12, 3) := by decide +kernel
theorem dX5_personAt_18 : decode cX5_personAt 18 = .ok (.aload_n 0, 1) := by decide +kernel
theorem dX5_personAt_19 : decode cX5_personAt 19 = .ok (.getfield 9, 3) := by decide +kernel
theorem dX5_personAt_22 : decode cX5_personAt 22 = .ok (.iload_n 1, 1) := by decide +kernel
theorem dX5_personAt_23 : decode cX5_personAt 23 = .ok (.iaload, 1) := by decide +kernel
theorem dX5_personAt_24 : decode cX5_personAt 24 = .ok (.goto 5, 3) := by decide +kernel
theorem dX5_personAt_27 : decode cX5_personAt 27 = .ok (.bipush (-5), 2) := by decide +kernel
theorem dX5_personAt_29 : decode cX5_personAt 29 = .ok (.ireturn, 1) := by decide +kernel
theorem dX6_init_0 : decode cX6_init 0 = .ok (.aload_n 0, 1) := by decide +kernel
theorem dX6_init_1 : decode cX6_init 1 = .ok (.invokespecial 1, 3) := by decide +kernel
theorem dX6_init_4 : decode cX6_init 4 = .ok (.aload_n 0, 1) := by decide +kernel
theorem dX6_init_5 : decode cX6_init 5 = .ok (.new 7, 3) := by decide +kernel
theorem dX6_init_8 : decode cX6_init 8 = .ok (.dup, 1) := by decide +kernel
theorem dX6_init_9 : decode cX6_init 9 = .ok (.invokespecial 9, 3) := by decide +kernel
theorem dX6_init_12 : decode cX6_init 12 = .ok (.putfield 10, 3) := by decide +kernel
theorem dX6_init_15 : decode cX6_init 15 = .ok (.aload_n 0, 1) := by decide +kernel
theorem dX6_init_16 : decode cX6_init 16 = .ok (.new 7, 3) := by decide +kernel
theorem dX6_init_19 : decode cX6_init 19 = .ok (.dup, 1) := by decide +kernel
theorem dX6_init_20 : decode cX6_init 20 = .ok (.invokespecial 9, 3) := by decide +kernel
theorem dX6_init_23 : decode cX6_init 23 = .ok (.putfield 16, 3) := by decide +kernel
theorem dX6_init_26 : decode cX6_init 26 = .ok (.aload_n 0, 1) := by decide +kernel
theorem dX6_init_27 : decode cX6_init 27 = .ok (.new 19, 3) := by decide +kernel
theorem dX6_init_30 : decode cX6_init 30 = .ok (.dup, 1) := by decide +kernel
theorem dX6_init_31 : decode cX6_init 31 = .ok (.invokespecial 21, 3) := by decide +kernel
theorem dX6_init_34 : decode cX6_init 34 = .ok (.putfield 22, 3) := by decide +kernel
theorem dX6_init_37 : decode cX6_init 37 = .ok (.aload_n 0, 1) := by decide +kernel
theorem dX6_init_38 : decode cX6_init 38 = .ok (.new 26, 3) := by decide +kernel
theorem dX6_init_41 : decode cX6_init 41 = .ok (.dup, 1) := by decide +kernel
theorem dX6_init_42 : decode cX6_init 42 = .ok (.invokespecial 28, 3) := by decide +kernel
theorem dX6_init_45 : decode cX6_init 45 = .ok (.putfield 29, 3) := by decide +kernel
theorem dX6_init_48 : decode cX6_init 48 = .ok (.aload_n 0, 1) := by decide +kernel
theorem dX6_init_49 : decode cX6_init 49 = .ok (.new 33, 3) := by decide +kernel
theorem dX6_init_52 : decode cX6_init 52 = .ok (.dup, 1) := by decide +kernel
theorem dX6_init_53 : decode cX6_init 53 = .ok (.invokespecial 35, 3) := by decide +kernel
theorem dX6_init_56 : decode cX6_init 56 = .ok (.putfield 36, 3) := by decide +kernel
theorem dX6_init_59 : decode cX6_init 59 = .ok (.aload_n 0, 1) := by decide +kernel
theorem dX6_init_60 : decode cX6_init 60 = .ok (.new 40, 3) := by decide +kernel
theorem dX6_init_63 : decode cX6_init 63 = .ok (.dup, 1) := by decide +kernel
theorem dX6_init_64 : decode cX6_init 64 = .ok (.invokespecial 42, 3) := by decide +kernel
theorem dX6_init_67 : decode cX6_init 67 = .ok (.putfield 43, 3) := by decide +kernel
theorem dX6_init_70 : decode cX6_init 70 = .ok (.return_, 1) := by decide +kernel
theorem dX6_addPerson_0 : decode cX6_addPerson 0 = .ok (.iload_n 1, 1) := by decide +kernel
theorem dX6_addPerson_1 : decode cX6_addPerson 1 = .ok (.iconst 0, 1) := by decide +kernel
theorem dX6_addPerson_2 : decode cX6_addPerson 2 = .ok (.bipush 110, 2) := by decide +kernel
theorem dX6_addPerson_4 : decode cX6_addPerson 4 = .ok (.invokestatic 47, 3) := by decide +kernel
theorem dX6_addPerson_7 : decode cX6_addPerson 7 = .ok (.ifCond .eq 13, 3) := by decide +kernel
theorem dX6_addPerson_10 : decode cX6_addPerson 10 = .ok (.iload_n 2, 1) := by decide +kernel
theorem dX6_addPerson_11 : decode cX6_addPerson 11 = .ok (.iconst 1, 1) := by decide +kernel
theorem dX6_addPerson_12 : decode cX6_addPerson 12 = .ok (.bipush 9, 2) := by decide +kernel
theorem dX6_addPerson_14 : decode cX6_addPerson 14 = .ok (.invokestatic 47, 3) := by decide +kernel
theorem dX6_addPerson_17 : decode cX6_addPerson 17 = .ok (.ifCond .ne 6, 3) := by decide +kernel
theorem dX6_addPerson_20 : decode cX6_addPerson 20 = .ok (.bipush (-2), 2) := by decide +kernel
theorem dX6_addPerson_22 : decode cX6_addPerson 22 = .ok (.ireturn, 1) := by decide +kernel
theorem dX6_addPerson_23 : decode cX6_addPerson 23 = .ok (.aload_n 0, 1) := by decide +kernel
theorem dX6_addPerson_24 : decode cX6_addPerson 24 = .ok (.getfield 10, 3) := by decide +kernel
theorem dX6_addPerson_27 : decode cX6_addPerson 27 = .ok (.invokevirtual 51, 3) := by decide +kernel
theorem dX6_addPerson_30 : decode cX6_addPerson 30 = .ok (.iconst 1, 1) := by decide +kernel
theorem dX6_addPerson_31 : decode cX6_addPerson 31 = .ok (.if_icmp .ge 6, 3) := by decide +kernel
theorem dX6_addPerson_34 : decode cX6_addPerson 34 = .ok (.bipush (-3), 2) := by decide +kernel
theorem dX6_addPerson_36 : decode cX6_addPerson 36 = .ok (.ireturn, 1) := by decide +kernel
theorem dX6_addPerson_37 : decode cX6_addPerson 37 = .ok (.aload_n 0, 1) := by decide +kernel
theorem dX6_addPerson_38 : decode cX6_addPerson 38 = .ok (.getfield 22, 3) := by decide +kernel
theorem dX6_addPerson_41 : decode cX6_addPerson 41 = .ok (.aload_n 0, 1) := by decide +kernel
theorem dX6_addPerson_42 : decode cX6_addPerson 42 = .ok (.getfield 10, 3) := by decide +kernel
theorem dX6_addPerson_45 : decode cX6_addPerson 45 = .ok (.invokevirtual 55, 3) := by decide +kernel
theorem dX6_addPerson_48 : decode cX6_addPerson 48 = .ok (.aload_n 0, 1) := by decide +kernel
theorem dX6_addPerson_49 : decode cX6_addPerson 49 = .ok (.getfield 10, 3) := by decide +kernel
theorem dX6_addPerson_52 : decode cX6_addPerson 52 = .ok (.iload_n 1, 1) := by decide +kernel
theorem dX6_addPerson_53 : decode cX6_addPerson 53 = .ok (.iload_n 2, 1) := by decide +kernel
theorem dX6_addPerson_54 : decode cX6_addPerson 54 = .ok (.invokevirtual 59, 3) := by decide +kernel
theorem dX6_addPerson_57 : decode cX6_addPerson 57 = .ok (.ireturn, 1) := by decide +kernel
theorem dX6_addPersons_0 : decode cX6_addPersons 0 = .ok (.aload_n 0, 1) := by decide +kernel
theorem dX6_addPersons_1 : decode cX6_addPersons 1 = .ok (.getfield 29, 3) := by decide +kernel
theorem dX6_addPersons_4 : decode cX6_addPersons 4 = .ok (.aload_n 0, 1) := by decide +kernel
theorem dX6_addPersons_5 : decode cX6_addPersons 5 = .ok (.getfield 10, 3) := by decide +kernel
theorem dX6_addPersons_8 : decode cX6_addPersons 8 = .ok (.invokevirtual 63, 3) := by decide +kernel
theorem dX6_addPersons_11 : decode cX6_addPersons 11 = .ok (.invokevirtual 66, 3) := by decide +kernel
theorem dX6_addPersons_14 : decode cX6_addPersons 14 = .ok (.ifCond .ne 14, 3) := by decide +kernel
theorem dX6_addPersons_17 : decode cX6_addPersons 17 = .ok (.bipush (-100), 2) := by decide +kernel
theorem dX6_addPersons_19 : decode cX6_addPersons 19 = .ok (.aload_n 0, 1) := by decide +kernel
theorem dX6_addPersons_20 : decode cX6_addPersons 20 = .ok (.getfield 29, 3) := by decide +kernel
theorem dX6_addPersons_23 : decode cX6_addPersons 23 = .ok (.invokevirtual 70, 3) := by decide +kernel
theorem dX6_addPersons_26 : decode cX6_addPersons 26 = .ok (.isub, 1) := by decide +kernel
theorem dX6_addPersons_27 : decode cX6_addPersons 27 = .ok (.ireturn, 1) := by decide +kernel
theorem dX6_addPersons_28 : decode cX6_addPersons 28 = .ok (.aload_n 0, 1) := by decide +kernel
theorem dX6_addPersons_29 : decode cX6_addPersons 29 = .ok (.getfield 29, 3) := by decide +kernel
theorem dX6_addPersons_32 : decode cX6_addPersons 32 = .ok (.invokevirtual 73, 3) := by decide +kernel
theorem dX6_addPersons_35 : decode cX6_addPersons 35 = .ok (.istore_n 1, 1) := by decide +kernel
theorem dX6_addPersons_36 : decode cX6_addPersons 36 = .ok (.iload_n 1, 1) := by decide +kernel
theorem dX6_addPersons_37 : decode cX6_addPersons 37 = .ok (.aload_n 0, 1) := by decide +kernel
theorem dX6_addPersons_38 : decode cX6_addPersons 38 = .ok (.getfield 10, 3) := by decide +kernel
theorem dX6_addPersons_41 : decode cX6_addPersons 41 = .ok (.invokevirtual 51, 3) := by decide +kernel
theorem dX6_addPersons_44 : decode cX6_addPersons 44 = .ok (.if_icmp .le 6, 3) := by decide +kernel
theorem dX6_addPersons_47 : decode cX6_addPersons 47 = .ok (.bipush (-3), 2) := by decide +kernel
theorem dX6_addPersons_49 : decode cX6_addPersons 49 = .ok (.ireturn, 1) := by decide +kernel
theorem dX6_addPersons_50 : decode cX6_addPersons 50 = .ok (.aload_n 0, 1) := by decide +kernel
theorem dX6_addPersons_51 : decode cX6_addPersons 51 = .ok (.getfield 22, 3) := by decide +kernel
theorem dX6_addPersons_54 : decode cX6_addPersons 54 = .ok (.aload_n 0, 1) := by decide +kernel
theorem dX6_addPersons_55 : decode cX6_addPersons 55 = .ok (.getfield 10, 3) := by decide +kernel
theorem dX6_addPersons_58 : decode cX6_addPersons 58 = .ok (.invokevirtual 55, 3) := by decide +kernel
theorem dX6_addPersons_61 : decode cX6_addPersons 61 = .ok (.iconst 0, 1) := by decide +kernel
theorem dX6_addPersons_62 : decode cX6_addPersons 62 = .ok (.istore_n 2, 1) := by decide +kernel
theorem dX6_addPersons_63 : decode cX6_addPersons 63 = .ok (.iload_n 2, 1) := by decide +kernel
theorem dX6_addPersons_64 : decode cX6_addPersons 64 = .ok (.iload_n 1, 1) := by decide +kernel
theorem dX6_addPersons_65 : decode cX6_addPersons 65 = .ok (.if_icmp .ge 24, 3) := by decide +kernel
theorem dX6_addPersons_68 : decode cX6_addPersons 68 = .ok (.aload_n 0, 1) := by decide +kernel
theorem dX6_addPersons_69 : decode cX6_addPersons 69 = .ok (.getfield 10, 3) := by decide +kernel
theorem dX6_addPersons_72 : decode cX6_addPersons 72 = .ok (.aload_n 0, 1) := by decide +kernel
theorem dX6_addPersons_73 : decode cX6_addPersons 73 = .ok (.getfield 29, 3) := by decide +kernel
theorem dX6_addPersons_76 : decode cX6_addPersons 76 = .ok (.iload_n 2, 1) := by decide +kernel
theorem dX6_addPersons_77 : decode cX6_addPersons 77 = .ok (.invokevirtual 76, 3) := by decide +kernel
theorem dX6_addPersons_80 : decode cX6_addPersons 80 = .ok (.invokevirtual 80, 3) := by decide +kernel
theorem dX6_addPersons_83 : decode cX6_addPersons 83 = .ok (.iinc 2 1, 3) := by decide +kernel
theorem dX6_addPersons_86 : decode cX6_addPersons 86 = .ok (.goto (-23), 3) := by decide +kernel
theorem dX6_addPersons_89 : decode cX6_addPersons 89 = .ok (.iload_n 1, 1) := by decide +kernel
theorem dX6_addPersons_90 : decode cX6_addPersons 90 = .ok (.ireturn, 1) := by decide +kernel
theorem dX6_write_0 : decode cX6_write 0 = .ok (.aload_n 0, 1) := by decide +kernel
theorem dX6_write_1 : decode cX6_write 1 = .ok (.getfield 10, 3) := by decide +kernel
theorem dX6_write_4 : decode cX6_write 4 = .ok (.iload_n 1, 1) := by decide +kernel
theorem dX6_write_5 : decode cX6_write 5 = .ok (.invokevirtual 84, 3) := by decide +kernel
theorem dX6_write_8 : decode cX6_write 8 = .ok (.astore 4, 2) := by decide +kernel
theorem dX6_write_10 : decode cX6_write 10 = .ok (.aload 4, 2) := by decide +kernel
theorem dX6_write_12 : decode cX6_write 12 = .ok (.ifnull 10, 3) := by decide +kernel
theorem dX6_write_15 : decode cX6_write 15 = .ok (.iload_n 2, 1) := by decide +kernel
theorem dX6_write_16 : decode cX6_write 16 = .ok (.invokestatic 87, 3) := by decide +kernel
theorem dX6_write_19 : decode cX6_write 19 = .ok (.ifCond .ne 5, 3) := by decide +kernel
theorem dX6_write_22 : decode cX6_write 22 = .ok (.iconst (-1), 1) := by decide +kernel
theorem dX6_write_23 : decode cX6_write 23 = .ok (.ireturn, 1) := by decide +kernel
theorem dX6_write_24 : decode cX6_write 24 = .ok (.iload_n 3, 1) := by decide +kernel
theorem dX6_write_25 : decode cX6_write 25 = .ok (.iconst 1, 1) := by decide +kernel
theorem dX6_write_26 : decode cX6_write 26 = .ok (.bipush 9, 2) := by decide +kernel
theorem dX6_write_28 : decode cX6_write 28 = .ok (.invokestatic 47, 3) := by decide +kernel
theorem dX6_write_31 : decode cX6_write 31 = .ok (.ifCond .ne 6, 3) := by decide +kernel
theorem dX6_write_34 : decode cX6_write 34 = .ok (.bipush (-2), 2) := by decide +kernel
theorem dX6_write_36 : decode cX6_write 36 = .ok (.ireturn, 1) := by decide +kernel
theorem dX6_write_37 : decode cX6_write 37 = .ok (.aload 4, 2) := by decide +kernel
theorem dX6_write_39 : decode cX6_write 39 = .ok (.iconst 3, 1) := by decide +kernel
theorem dX6_write_40 : decode cX6_write 40 = .ok (.invokevirtual 90, 3) := by decide +kernel
theorem dX6_write_43 : decode cX6_write 43 = .ok (.ifCond .eq 6, 3) := by decide +kernel
theorem dX6_write_46 : decode cX6_write 46 = .ok (.bipush (-4), 2) := by decide +kernel
theorem dX6_write_48 : decode cX6_write 48 = .ok (.ireturn, 1) := by decide +kernel
theorem dX6_write_49 : decode cX6_write 49 = .ok (.aload 4, 2) := by decide +kernel
theorem dX6_write_51 : decode cX6_write 51 = .ok (.invokevirtual 95, 3) := by decide +kernel
theorem dX6_write_54 : decode cX6_write 54 = .ok (.bipush 8, 2) := by decide +kernel
theorem dX6_write_56 : decode cX6_write 56 = .ok (.if_icmp .ge 14, 3) := by decide +kernel
theorem dX6_write_59 : decode cX6_write 59 = .ok (.aload_n 0, 1) := by decide +kernel
theorem dX6_write_60 : decode cX6_write 60 = .ok (.getfield 10, 3) := by decide +kernel
theorem dX6_write_63 : decode cX6_write 63 = .ok (.invokevirtual 98, 3) := by decide +kernel
theorem dX6_write_66 : decode cX6_write 66 = .ok (.iload_n 3, 1) := by decide +kernel
theorem dX6_write_67 : decode cX6_write 67 = .ok (.if_icmp .ge 6, 3) := by decide +kernel
theorem dX6_write_70 : decode cX6_write 70 = .ok (.bipush (-3), 2) := by decide +kernel
theorem dX6_write_72 : decode cX6_write 72 = .ok (.ireturn, 1) := by decide +kernel
theorem dX6_write_73 : decode cX6_write 73 = .ok (.aload_n 0, 1) := by decide +kernel
theorem dX6_write_74 : decode cX6_write 74 = .ok (.getfield 22, 3) := by decide +kernel
theorem dX6_write_77 : decode cX6_write 77 = .ok (.aload_n 0, 1) := by decide +kernel
theorem dX6_write_78 : decode cX6_write 78 = .ok (.getfield 10, 3) := by decide +kernel
theorem dX6_write_81 : decode cX6_write 81 = .ok (.invokevirtual 55, 3) := by decide +kernel
theorem dX6_write_84 : decode cX6_write 84 = .ok (.aload_n 0, 1) := by decide +kernel
theorem dX6_write_85 : decode cX6_write 85 = .ok (.getfield 10, 3) := by decide +kernel
theorem dX6_write_88 : decode cX6_write 88 = .ok (.iload_n 3, 1) := by decide +kernel
theorem dX6_write_89 : decode cX6_write 89 = .ok (.invokevirtual 101, 3) := by decide +kernel
theorem dX6_write_92 : decode cX6_write 92 = .ok (.aload 4, 2) := by decide +kernel
theorem dX6_write_94 : decode cX6_write 94 = .ok (.iload_n 2, 1) := by decide +kernel
theorem dX6_write_95 : decode cX6_write 95 = .ok (.iload_n 3, 1) := by decide +kernel
theorem dX6_write_96 : decode cX6_write 96 = .ok (.aload_n 0, 1) := by decide +kernel
theorem dX6_write_97 : decode cX6_write 97 = .ok (.getfield 10, 3) := by decide +kernel
theorem dX6_write_100 : decode cX6_write 100 = .ok (.invokevirtual 63, 3) := by decide +kernel
theorem dX6_write_103 : decode cX6_write 103 = .ok (.invokevirtual 105, 3) := by decide +kernel
theorem dX6_write_106 : decode cX6_write 106 = .ok (.ireturn, 1) := by decide +kernel
theorem dX6_check_0 : decode cX6_check 0 = .ok (.aload_n 0, 1) := by decide +kernel
theorem dX6_check_1 : decode cX6_check 1 = .ok (.getfield 10, 3) := by decide +kernel
theorem dX6_check_4 : decode cX6_check 4 = .ok (.iload_n 1, 1) := by decide +kernel
theorem dX6_check_5 : decode cX6_check 5 = .ok (.invokevirtual 84, 3) := by decide +kernel
theorem dX6_check_8 : decode cX6_check 8 = .ok (.astore_n 3, 1) := by decide +kernel
theorem dX6_check_9 : decode cX6_check 9 = .ok (.aload_n 3, 1) := by decide +kernel
theorem dX6_check_10 : decode cX6_check 10 = .ok (.ifnull 11, 3) := by decide +kernel
theorem dX6_check_13 : decode cX6_check 13 = .ok (.aload_n 3, 1) := by decide +kernel
theorem dX6_check_14 : decode cX6_check 14 = .ok (.iload_n 2, 1) := by decide +kernel
theorem dX6_check_15 : decode cX6_check 15 = .ok (.invokevirtual 109, 3) := by decide +kernel
theorem dX6_check_18 : decode cX6_check 18 = .ok (.ifCond .ne 5, 3) := by decide +kernel
theorem dX6_check_21 : decode cX6_check 21 = .ok (.iconst (-1), 1) := by decide +kernel
theorem dX6_check_22 : decode cX6_check 22 = .ok (.ireturn, 1) := by decide +kernel
theorem dX6_check_23 : decode cX6_check 23 = .ok (.aload_n 3, 1) := by decide +kernel
theorem dX6_check_24 : decode cX6_check 24 = .ok (.iconst 3, 1) := by decide +kernel
theorem dX6_check_25 : decode cX6_check 25 = .ok (.invokevirtual 90, 3) := by decide +kernel
theorem dX6_check_28 : decode cX6_check 28 = .ok (.ifCond .eq 6, 3) := by decide +kernel
theorem dX6_check_31 : decode cX6_check 31 = .ok (.bipush (-4), 2) := by decide +kernel
theorem dX6_check_33 : decode cX6_check 33 = .ok (.ireturn, 1) := by decide +kernel
theorem dX6_check_34 : decode cX6_check 34 = .ok (.aload_n 0, 1) := by decide +kernel
theorem dX6_check_35 : decode cX6_check 35 = .ok (.getfield 10, 3) := by decide +kernel
theorem dX6_check_38 : decode cX6_check 38 = .ok (.invokevirtual 98, 3) := by decide +kernel
theorem dX6_check_41 : decode cX6_check 41 = .ok (.iconst 1, 1) := by decide +kernel
theorem dX6_check_42 : decode cX6_check 42 = .ok (.if_icmp .ge 6, 3) := by decide +kernel
theorem dX6_check_45 : decode cX6_check 45 = .ok (.bipush (-3), 2) := by decide +kernel
theorem dX6_check_47 : decode cX6_check 47 = .ok (.ireturn, 1) := by decide +kernel
theorem dX6_check_48 : decode cX6_check 48 = .ok (.aload_n 3, 1) := by decide +kernel
theorem dX6_check_49 : decode cX6_check 49 = .ok (.iload_n 2, 1) := by decide +kernel
theorem dX6_check_50 : decode cX6_check 50 = .ok (.invokevirtual 112, 3) := by decide +kernel
theorem dX6_check_53 : decode cX6_check 53 = .ok (.aload_n 0, 1) := by decide +kernel
theorem dX6_check_54 : decode cX6_check 54 = .ok (.getfield 10, 3) := by decide +kernel
theorem dX6_check_57 : decode cX6_check 57 = .ok (.invokevirtual 63, 3) := by decide +kernel
theorem dX6_check_60 : decode cX6_check 60 = .ok (.if_icmp .ne 6, 3) := by decide +kernel
theorem dX6_check_63 : decode cX6_check 63 = .ok (.bipush (-5), 2) := by decide +kernel
theorem dX6_check_65 : decode cX6_check 65 = .ok (.ireturn, 1) := by decide +kernel
theorem dX6_check_66 : decode cX6_check 66 = .ok (.aload_n 0, 1) := by decide +kernel
theorem dX6_check_67 : decode cX6_check 67 = .ok (.getfield 22, 3) := by decide +kernel
theorem dX6_check_70 : decode cX6_check 70 = .ok (.aload_n 0, 1) := by decide +kernel
theorem dX6_check_71 : decode cX6_check 71 = .ok (.getfield 10, 3) := by decide +kernel
theorem dX6_check_74 : decode cX6_check 74 = .ok (.invokevirtual 55, 3) := by decide +kernel
theorem dX6_check_77 : decode cX6_check 77 = .ok (.aload_n 0, 1) := by decide +kernel
theorem dX6_check_78 : decode cX6_check 78 = .ok (.getfield 10, 3) := by decide +kernel
theorem dX6_check_81 : decode cX6_check 81 = .ok (.aload_n 3, 1) := by decide +kernel
theorem dX6_check_82 : decode cX6_check 82 = .ok (.iload_n 2, 1) := by decide +kernel
theorem dX6_check_83 : decode cX6_check 83 = .ok (.invokevirtual 116, 3) := by decide +kernel
theorem dX6_check_86 : decode cX6_check 86 = .ok (.aload_n 0, 1) := by decide +kernel
theorem dX6_check_87 : decode cX6_check 87 = .ok (.getfield 10, 3) := by decide +kernel
theorem dX6_check_90 : decode cX6_check 90 = .ok (.invokevirtual 98, 3) := by decide +kernel
theorem dX6_check_93 : decode cX6_check 93 = .ok (.ireturn, 1) := by decide +kernel
theorem dX6_strike_0 : decode cX6_strike 0 = .ok (.aload_n 0, 1) := by decide +kernel
theorem dX6_strike_1 : decode cX6_strike 1 = .ok (.getfield 10, 3) := by decide +kernel
theorem dX6_strike_4 : decode cX6_strike 4 = .ok (.iload_n 1, 1) := by decide +kernel
theorem dX6_strike_5 : decode cX6_strike 5 = .ok (.invokevirtual 84, 3) := by decide +kernel
theorem dX6_strike_8 : decode cX6_strike 8 = .ok (.astore_n 3, 1) := by decide +kernel
theorem dX6_strike_9 : decode cX6_strike 9 = .ok (.aload_n 3, 1) := by decide +kernel
theorem dX6_strike_10 : decode cX6_strike 10 = .ok (.ifnull 11, 3) := by decide +kernel
theorem dX6_strike_13 : decode cX6_strike 13 = .ok (.aload_n 3, 1) := by decide +kernel
theorem dX6_strike_14 : decode cX6_strike 14 = .ok (.iload_n 2, 1) := by decide +kernel
theorem dX6_strike_15 : decode cX6_strike 15 = .ok (.invokevirtual 109, 3) := by decide +kernel
theorem dX6_strike_18 : decode cX6_strike 18 = .ok (.ifCond .ne 5, 3) := by decide +kernel
theorem dX6_strike_21 : decode cX6_strike 21 = .ok (.iconst (-1), 1) := by decide +kernel
theorem dX6_strike_22 : decode cX6_strike 22 = .ok (.ireturn, 1) := by decide +kernel
theorem dX6_strike_23 : decode cX6_strike 23 = .ok (.aload_n 3, 1) := by decide +kernel
theorem dX6_strike_24 : decode cX6_strike 24 = .ok (.iconst 3, 1) := by decide +kernel
theorem dX6_strike_25 : decode cX6_strike 25 = .ok (.invokevirtual 90, 3) := by decide +kernel
theorem dX6_strike_28 : decode cX6_strike 28 = .ok (.ifCond .eq 6, 3) := by decide +kernel
theorem dX6_strike_31 : decode cX6_strike 31 = .ok (.bipush (-4), 2) := by decide +kernel
theorem dX6_strike_33 : decode cX6_strike 33 = .ok (.ireturn, 1) := by decide +kernel
theorem dX6_strike_34 : decode cX6_strike 34 = .ok (.aload_n 0, 1) := by decide +kernel
theorem dX6_strike_35 : decode cX6_strike 35 = .ok (.getfield 22, 3) := by decide +kernel
theorem dX6_strike_38 : decode cX6_strike 38 = .ok (.aload_n 0, 1) := by decide +kernel
theorem dX6_strike_39 : decode cX6_strike 39 = .ok (.getfield 10, 3) := by decide +kernel
theorem dX6_strike_42 : decode cX6_strike 42 = .ok (.invokevirtual 55, 3) := by decide +kernel
theorem dX6_strike_45 : decode cX6_strike 45 = .ok (.aload_n 3, 1) := by decide +kernel
theorem dX6_strike_46 : decode cX6_strike 46 = .ok (.iload_n 2, 1) := by decide +kernel
theorem dX6_strike_47 : decode cX6_strike 47 = .ok (.invokevirtual 120, 3) := by decide +kernel
theorem dX6_strike_50 : decode cX6_strike 50 = .ok (.aload_n 3, 1) := by decide +kernel
theorem dX6_strike_51 : decode cX6_strike 51 = .ok (.invokevirtual 95, 3) := by decide +kernel
theorem dX6_strike_54 : decode cX6_strike 54 = .ok (.ireturn, 1) := by decide +kernel
theorem dX6_checkUrgent_0 : decode cX6_checkUrgent 0 = .ok (.aload_n 0, 1) := by decide +kernel
theorem dX6_checkUrgent_1 : decode cX6_checkUrgent 1 = .ok (.getfield 10, 3) := by decide +kernel
theorem dX6_checkUrgent_4 : decode cX6_checkUrgent 4 = .ok (.invokevirtual 123, 3) := by decide +kernel
theorem dX6_checkUrgent_7 : decode cX6_checkUrgent 7 = .ok (.astore_n 1, 1) := by decide +kernel
theorem dX6_checkUrgent_8 : decode cX6_checkUrgent 8 = .ok (.aload_n 1, 1) := by decide +kernel
theorem dX6_checkUrgent_9 : decode cX6_checkUrgent 9 = .ok (.ifnonnull 6, 3) := by decide +kernel
theorem dX6_checkUrgent_12 : decode cX6_checkUrgent 12 = .ok (.bipush (-5), 2) := by decide +kernel
theorem dX6_checkUrgent_14 : decode cX6_checkUrgent 14 = .ok (.ireturn, 1) := by decide +kernel
theorem dX6_checkUrgent_15 : decode cX6_checkUrgent 15 = .ok (.aload_n 0, 1) := by decide +kernel
theorem dX6_checkUrgent_16 : decode cX6_checkUrgent 16 = .ok (.getfield 22, 3) := by decide +kernel
theorem dX6_checkUrgent_19 : decode cX6_checkUrgent 19 = .ok (.aload_n 0, 1) := by decide +kernel
theorem dX6_checkUrgent_20 : decode cX6_checkUrgent 20 = .ok (.getfield 10, 3) := by decide +kernel
theorem dX6_checkUrgent_23 : decode cX6_checkUrgent 23 = .ok (.invokevirtual 55, 3) := by decide +kernel
theorem dX6_checkUrgent_26 : decode cX6_checkUrgent 26 = .ok (.iconst 0, 1) := by decide +kernel
theorem dX6_checkUrgent_27 : decode cX6_checkUrgent 27 = .ok (.istore_n 2, 1) := by decide +kernel
theorem dX6_checkUrgent_28 : decode cX6_checkUrgent 28 = .ok (.aload_n 1, 1) := by decide +kernel
theorem dX6_checkUrgent_29 : decode cX6_checkUrgent 29 = .ok (.ifnull 39, 3) := by decide +kernel
theorem dX6_checkUrgent_32 : decode cX6_checkUrgent 32 = .ok (.iload_n 2, 1) := by decide +kernel
theorem dX6_checkUrgent_33 : decode cX6_checkUrgent 33 = .ok (.bipush 24, 2) := by decide +kernel
theorem dX6_checkUrgent_35 : decode cX6_checkUrgent 35 = .ok (.if_icmp .ge 33, 3) := by decide +kernel
theorem dX6_checkUrgent_38 : decode cX6_checkUrgent 38 = .ok (.aload_n 0, 1) := by decide +kernel
theorem dX6_checkUrgent_39 : decode cX6_checkUrgent 39 = .ok (.getfield 10, 3) := by decide +kernel
theorem dX6_checkUrgent_42 : decode cX6_checkUrgent 42 = .ok (.aload_n 1, 1) := by decide +kernel
theorem dX6_checkUrgent_43 : decode cX6_checkUrgent 43 = .ok (.aload_n 0, 1) := by decide +kernel
theorem dX6_checkUrgent_44 : decode cX6_checkUrgent 44 = .ok (.getfield 10, 3) := by decide +kernel
theorem dX6_checkUrgent_47 : decode cX6_checkUrgent 47 = .ok (.aload_n 1, 1) := by decide +kernel
theorem dX6_checkUrgent_48 : decode cX6_checkUrgent 48 = .ok (.invokevirtual 127, 3) := by decide +kernel
theorem dX6_checkUrgent_51 : decode cX6_checkUrgent 51 = .ok (.invokevirtual 116, 3) := by decide +kernel
theorem dX6_checkUrgent_54 : decode cX6_checkUrgent 54 = .ok (.iinc 2 1, 3) := by decide +kernel
theorem dX6_checkUrgent_57 : decode cX6_checkUrgent 57 = .ok (.aload_n 0, 1) := by decide +kernel
theorem dX6_checkUrgent_58 : decode cX6_checkUrgent 58 = .ok (.getfield 10, 3) := by decide +kernel
theorem dX6_checkUrgent_61 : decode cX6_checkUrgent 61 = .ok (.invokevirtual 123, 3) := by decide +kernel
theorem dX6_checkUrgent_64 : decode cX6_checkUrgent 64 = .ok (.astore_n 1, 1) := by decide +kernel
theorem dX6_checkUrgent_65 : decode cX6_checkUrgent 65 = .ok (.goto (-37), 3) := by decide +kernel
theorem dX6_checkUrgent_68 : decode cX6_checkUrgent 68 = .ok (.iload_n 2, 1) := by decide +kernel
theorem dX6_checkUrgent_69 : decode cX6_checkUrgent 69 = .ok (.ireturn, 1) := by decide +kernel
theorem dX6_trust_0 : decode cX6_trust 0 = .ok (.iload_n 1, 1) := by decide +kernel
theorem dX6_trust_1 : decode cX6_trust 1 = .ok (.invokestatic 87, 3) := by decide +kernel
theorem dX6_trust_4 : decode cX6_trust 4 = .ok (.ifCond .ne 5, 3) := by decide +kernel
theorem dX6_trust_7 : decode cX6_trust 7 = .ok (.iconst (-1), 1) := by decide +kernel
theorem dX6_trust_8 : decode cX6_trust 8 = .ok (.ireturn, 1) := by decide +kernel
theorem dX6_trust_9 : decode cX6_trust 9 = .ok (.iload_n 2, 1) := by decide +kernel
theorem dX6_trust_10 : decode cX6_trust 10 = .ok (.iconst 0, 1) := by decide +kernel
theorem dX6_trust_11 : decode cX6_trust 11 = .ok (.bipush 100, 2) := by decide +kernel
theorem dX6_trust_13 : decode cX6_trust 13 = .ok (.invokestatic 47, 3) := by decide +kernel
theorem dX6_trust_16 : decode cX6_trust 16 = .ok (.ifCond .ne 6, 3) := by decide +kernel
theorem dX6_trust_19 : decode cX6_trust 19 = .ok (.bipush (-2), 2) := by decide +kernel
theorem dX6_trust_21 : decode cX6_trust 21 = .ok (.ireturn, 1) := by decide +kernel
theorem dX6_trust_22 : decode cX6_trust 22 = .ok (.aload_n 0, 1) := by decide +kernel
theorem dX6_trust_23 : decode cX6_trust 23 = .ok (.getfield 10, 3) := by decide +kernel
theorem dX6_trust_26 : decode cX6_trust 26 = .ok (.iload_n 1, 1) := by decide +kernel
theorem dX6_trust_27 : decode cX6_trust 27 = .ok (.invokevirtual 131, 3) := by decide +kernel
theorem dX6_trust_30 : decode cX6_trust 30 = .ok (.istore_n 3, 1) := by decide +kernel
theorem dX6_trust_31 : decode cX6_trust 31 = .ok (.iload_n 3, 1) := by decide +kernel
theorem dX6_trust_32 : decode cX6_trust 32 = .ok (.iload_n 2, 1) := by decide +kernel
theorem dX6_trust_33 : decode cX6_trust 33 = .ok (.if_icmp .ne 6, 3) := by decide +kernel
theorem dX6_trust_36 : decode cX6_trust 36 = .ok (.bipush (-5), 2) := by decide +kernel
theorem dX6_trust_38 : decode cX6_trust 38 = .ok (.ireturn, 1) := by decide +kernel
theorem dX6_trust_39 : decode cX6_trust 39 = .ok (.aload_n 0, 1) := by decide +kernel
theorem dX6_trust_40 : decode cX6_trust 40 = .ok (.getfield 22, 3) := by decide +kernel
theorem dX6_trust_43 : decode cX6_trust 43 = .ok (.aload_n 0, 1) := by decide +kernel
theorem dX6_trust_44 : decode cX6_trust 44 = .ok (.getfield 10, 3) := by decide +kernel
theorem dX6_trust_47 : decode cX6_trust 47 = .ok (.invokevirtual 55, 3) := by decide +kernel
theorem dX6_trust_50 : decode cX6_trust 50 = .ok (.aload_n 0, 1) := by decide +kernel
theorem dX6_trust_51 : decode cX6_trust 51 = .ok (.getfield 10, 3) := by decide +kernel
theorem dX6_trust_54 : decode cX6_trust 54 = .ok (.iload_n 1, 1) := by decide +kernel
theorem dX6_trust_55 : decode cX6_trust 55 = .ok (.iload_n 2, 1) := by decide +kernel
theorem dX6_trust_56 : decode cX6_trust 56 = .ok (.invokevirtual 134, 3) := by decide +kernel
theorem dX6_trust_59 : decode cX6_trust 59 = .ok (.iload_n 3, 1) := by decide +kernel
theorem dX6_trust_60 : decode cX6_trust 60 = .ok (.ireturn, 1) := by decide +kernel
theorem dX6_set_0 : decode cX6_set 0 = .ok (.iload_n 1, 1) := by decide +kernel
theorem dX6_set_1 : decode cX6_set 1 = .ok (.invokestatic 138, 3) := by decide +kernel
theorem dX6_set_4 : decode cX6_set 4 = .ok (.ifCond .eq 20, 3) := by decide +kernel
theorem dX6_set_7 : decode cX6_set 7 = .ok (.iload_n 2, 1) := by decide +kernel
theorem dX6_set_8 : decode cX6_set 8 = .ok (.getstatic 141, 3) := by decide +kernel
theorem dX6_set_11 : decode cX6_set 11 = .ok (.iload_n 1, 1) := by decide +kernel
theorem dX6_set_12 : decode cX6_set 12 = .ok (.iaload, 1) := by decide +kernel
theorem dX6_set_13 : decode cX6_set 13 = .ok (.getstatic 145, 3) := by decide +kernel
theorem dX6_set_16 : decode cX6_set 16 = .ok (.iload_n 1, 1) := by decide +kernel
theorem dX6_set_17 : decode cX6_set 17 = .ok (.iaload, 1) := by decide +kernel
theorem dX6_set_18 : decode cX6_set 18 = .ok (.invokestatic 47, 3) := by decide +kernel
theorem dX6_set_21 : decode cX6_set 21 = .ok (.ifCond .ne 6, 3) := by decide +kernel
theorem dX6_set_24 : decode cX6_set 24 = .ok (.bipush (-2), 2) := by decide +kernel
theorem dX6_set_26 : decode cX6_set 26 = .ok (.ireturn, 1) := by decide +kernel
theorem dX6_set_27 : decode cX6_set 27 = .ok (.aload_n 0, 1) := by decide +kernel
theorem dX6_set_28 : decode cX6_set 28 = .ok (.getfield 10, 3) := by decide +kernel
theorem dX6_set_31 : decode cX6_set 31 = .ok (.iload_n 1, 1) := by decide +kernel
theorem dX6_set_32 : decode cX6_set 32 = .ok (.invokevirtual 148, 3) := by decide +kernel
theorem dX6_set_35 : decode cX6_set 35 = .ok (.istore_n 3, 1) := by decide +kernel
theorem dX6_set_36 : decode cX6_set 36 = .ok (.iload_n 3, 1) := by decide +kernel
theorem dX6_set_37 : decode cX6_set 37 = .ok (.iload_n 2, 1) := by decide +kernel
theorem dX6_set_38 : decode cX6_set 38 = .ok (.if_icmp .ne 6, 3) := by decide +kernel
theorem dX6_set_41 : decode cX6_set 41 = .ok (.bipush (-5), 2) := by decide +kernel
theorem dX6_set_43 : decode cX6_set 43 = .ok (.ireturn, 1) := by decide +kernel
theorem dX6_set_44 : decode cX6_set 44 = .ok (.aload_n 0, 1) := by decide +kernel
theorem dX6_set_45 : decode cX6_set 45 = .ok (.getfield 22, 3) := by decide +kernel
theorem dX6_set_48 : decode cX6_set 48 = .ok (.aload_n 0, 1) := by decide +kernel
theorem dX6_set_49 : decode cX6_set 49 = .ok (.getfield 10, 3) := by decide +kernel
theorem dX6_set_52 : decode cX6_set 52 = .ok (.invokevirtual 55, 3) := by decide +kernel
theorem dX6_set_55 : decode cX6_set 55 = .ok (.aload_n 0, 1) := by decide +kernel
theorem dX6_set_56 : decode cX6_set 56 = .ok (.getfield 10, 3) := by decide +kernel
theorem dX6_set_59 : decode cX6_set 59 = .ok (.iload_n 1, 1) := by decide +kernel
theorem dX6_set_60 : decode cX6_set 60 = .ok (.iload_n 2, 1) := by decide +kernel
theorem dX6_set_61 : decode cX6_set 61 = .ok (.invokevirtual 151, 3) := by decide +kernel
theorem dX6_set_64 : decode cX6_set 64 = .ok (.iload_n 3, 1) := by decide +kernel
theorem dX6_set_65 : decode cX6_set 65 = .ok (.ireturn, 1) := by decide +kernel
theorem dX6_tellDeath_0 : decode cX6_tellDeath 0 = .ok (.aload_n 0, 1) := by decide +kernel
theorem dX6_tellDeath_1 : decode cX6_tellDeath 1 = .ok (.getfield 10, 3) := by decide +kernel
theorem dX6_tellDeath_4 : decode cX6_tellDeath 4 = .ok (.iload_n 1, 1) := by decide +kernel
theorem dX6_tellDeath_5 : decode cX6_tellDeath 5 = .ok (.invokevirtual 84, 3) := by decide +kernel
theorem dX6_tellDeath_8 : decode cX6_tellDeath 8 = .ok (.astore_n 3, 1) := by decide +kernel
theorem dX6_tellDeath_9 : decode cX6_tellDeath 9 = .ok (.aload_n 3, 1) := by decide +kernel
theorem dX6_tellDeath_10 : decode cX6_tellDeath 10 = .ok (.ifnull 10, 3) := by decide +kernel
theorem dX6_tellDeath_13 : decode cX6_tellDeath 13 = .ok (.iload_n 2, 1) := by decide +kernel
theorem dX6_tellDeath_14 : decode cX6_tellDeath 14 = .ok (.invokestatic 87, 3) := by decide +kernel
theorem dX6_tellDeath_17 : decode cX6_tellDeath 17 = .ok (.ifCond .ne 5, 3) := by decide +kernel
theorem dX6_tellDeath_20 : decode cX6_tellDeath 20 = .ok (.iconst (-1), 1) := by decide +kernel
theorem dX6_tellDeath_21 : decode cX6_tellDeath 21 = .ok (.ireturn, 1) := by decide +kernel
theorem dX6_tellDeath_22 : decode cX6_tellDeath 22 = .ok (.aload_n 3, 1) := by decide +kernel
theorem dX6_tellDeath_23 : decode cX6_tellDeath 23 = .ok (.iconst 2, 1) := by decide +kernel
theorem dX6_tellDeath_24 : decode cX6_tellDeath 24 = .ok (.invokevirtual 90, 3) := by decide +kernel
theorem dX6_tellDeath_27 : decode cX6_tellDeath 27 = .ok (.ifCond .ne 11, 3) := by decide +kernel
theorem dX6_tellDeath_30 : decode cX6_tellDeath 30 = .ok (.aload_n 3, 1) := by decide +kernel
theorem dX6_tellDeath_31 : decode cX6_tellDeath 31 = .ok (.iconst 3, 1) := by decide +kernel
theorem dX6_tellDeath_32 : decode cX6_tellDeath 32 = .ok (.invokevirtual 90, 3) := by decide +kernel
theorem dX6_tellDeath_35 : decode cX6_tellDeath 35 = .ok (.ifCond .eq 6, 3) := by decide +kernel
theorem dX6_tellDeath_38 : decode cX6_tellDeath 38 = .ok (.bipush (-4), 2) := by decide +kernel
theorem dX6_tellDeath_40 : decode cX6_tellDeath 40 = .ok (.ireturn, 1) := by decide +kernel
theorem dX6_tellDeath_41 : decode cX6_tellDeath 41 = .ok (.aload_n 3, 1) := by decide +kernel
theorem dX6_tellDeath_42 : decode cX6_tellDeath 42 = .ok (.iconst 1, 1) := by decide +kernel
theorem dX6_tellDeath_43 : decode cX6_tellDeath 43 = .ok (.invokevirtual 90, 3) := by decide +kernel
theorem dX6_tellDeath_46 : decode cX6_tellDeath 46 = .ok (.istore 4, 2) := by decide +kernel
theorem dX6_tellDeath_48 : decode cX6_tellDeath 48 = .ok (.iload 4, 2) := by decide +kernel
theorem dX6_tellDeath_50 : decode cX6_tellDeath 50 = .ok (.ifCond .eq 14, 3) := by decide +kernel
theorem dX6_tellDeath_53 : decode cX6_tellDeath 53 = .ok (.aload_n 3, 1) := by decide +kernel
theorem dX6_tellDeath_54 : decode cX6_tellDeath 54 = .ok (.invokevirtual 154, 3) := by decide +kernel
theorem dX6_tellDeath_57 : decode cX6_tellDeath 57 = .ok (.iload_n 2, 1) := by decide +kernel
theorem dX6_tellDeath_58 : decode cX6_tellDeath 58 = .ok (.if_icmp .ne 6, 3) := by decide +kernel
theorem dX6_tellDeath_61 : decode cX6_tellDeath 61 = .ok (.bipush (-5), 2) := by decide +kernel
theorem dX6_tellDeath_63 : decode cX6_tellDeath 63 = .ok (.ireturn, 1) := by decide +kernel
theorem dX6_tellDeath_64 : decode cX6_tellDeath 64 = .ok (.aload_n 0, 1) := by decide +kernel
theorem dX6_tellDeath_65 : decode cX6_tellDeath 65 = .ok (.getfield 22, 3) := by decide +kernel
theorem dX6_tellDeath_68 : decode cX6_tellDeath 68 = .ok (.aload_n 0, 1) := by decide +kernel
theorem dX6_tellDeath_69 : decode cX6_tellDeath 69 = .ok (.getfield 10, 3) := by decide +kernel
theorem dX6_tellDeath_72 : decode cX6_tellDeath 72 = .ok (.invokevirtual 55, 3) := by decide +kernel
theorem dX6_tellDeath_75 : decode cX6_tellDeath 75 = .ok (.iload 4, 2) := by decide +kernel
theorem dX6_tellDeath_77 : decode cX6_tellDeath 77 = .ok (.ifCond .eq 16, 3) := by decide +kernel
theorem dX6_tellDeath_80 : decode cX6_tellDeath 80 = .ok (.aload_n 3, 1) := by decide +kernel
theorem dX6_tellDeath_81 : decode cX6_tellDeath 81 = .ok (.aload_n 0, 1) := by decide +kernel
theorem dX6_tellDeath_82 : decode cX6_tellDeath 82 = .ok (.getfield 10, 3) := by decide +kernel
theorem dX6_tellDeath_85 : decode cX6_tellDeath 85 = .ok (.invokevirtual 63, 3) := by decide +kernel
theorem dX6_tellDeath_88 : decode cX6_tellDeath 88 = .ok (.invokevirtual 157, 3) := by decide +kernel
theorem dX6_tellDeath_91 : decode cX6_tellDeath 91 = .ok (.iconst 1, 1) := by decide +kernel
theorem dX6_tellDeath_92 : decode cX6_tellDeath 92 = .ok (.ireturn, 1) := by decide +kernel
theorem dX6_tellDeath_93 : decode cX6_tellDeath 93 = .ok (.aload_n 3, 1) := by decide +kernel
theorem dX6_tellDeath_94 : decode cX6_tellDeath 94 = .ok (.iload_n 2, 1) := by decide +kernel
theorem dX6_tellDeath_95 : decode cX6_tellDeath 95 = .ok (.aload_n 0, 1) := by decide +kernel
theorem dX6_tellDeath_96 : decode cX6_tellDeath 96 = .ok (.getfield 10, 3) := by decide +kernel
theorem dX6_tellDeath_99 : decode cX6_tellDeath 99 = .ok (.invokevirtual 63, 3) := by decide +kernel
theorem dX6_tellDeath_102 : decode cX6_tellDeath 102 = .ok (.invokevirtual 160, 3) := by decide +kernel
theorem dX6_tellDeath_105 : decode cX6_tellDeath 105 = .ok (.iconst 0, 1) := by decide +kernel
theorem dX6_tellDeath_106 : decode cX6_tellDeath 106 = .ok (.ireturn, 1) := by decide +kernel
theorem dX6_decide_0 : decode cX6_decide 0 = .ok (.aload_n 0, 1) := by decide +kernel
theorem dX6_decide_1 : decode cX6_decide 1 = .ok (.getfield 10, 3) := by decide +kernel
theorem dX6_decide_4 : decode cX6_decide 4 = .ok (.iload_n 1, 1) := by decide +kernel
theorem dX6_decide_5 : decode cX6_decide 5 = .ok (.invokevirtual 84, 3) := by decide +kernel
theorem dX6_decide_8 : decode cX6_decide 8 = .ok (.astore_n 3, 1) := by decide +kernel
theorem dX6_decide_9 : decode cX6_decide 9 = .ok (.aload_n 3, 1) := by decide +kernel
theorem dX6_decide_10 : decode cX6_decide 10 = .ok (.ifnonnull 5, 3) := by decide +kernel
theorem dX6_decide_13 : decode cX6_decide 13 = .ok (.iconst (-1), 1) := by decide +kernel
theorem dX6_decide_14 : decode cX6_decide 14 = .ok (.ireturn, 1) := by decide +kernel
theorem dX6_decide_15 : decode cX6_decide 15 = .ok (.aload_n 3, 1) := by decide +kernel
theorem dX6_decide_16 : decode cX6_decide 16 = .ok (.iconst 1, 1) := by decide +kernel
theorem dX6_decide_17 : decode cX6_decide 17 = .ok (.invokevirtual 90, 3) := by decide +kernel
theorem dX6_decide_20 : decode cX6_decide 20 = .ok (.ifCond .ne 6, 3) := by decide +kernel
theorem dX6_decide_23 : decode cX6_decide 23 = .ok (.bipush (-4), 2) := by decide +kernel
theorem dX6_decide_25 : decode cX6_decide 25 = .ok (.ireturn, 1) := by decide +kernel
theorem dX6_decide_26 : decode cX6_decide 26 = .ok (.aload_n 0, 1) := by decide +kernel
theorem dX6_decide_27 : decode cX6_decide 27 = .ok (.getfield 22, 3) := by decide +kernel
theorem dX6_decide_30 : decode cX6_decide 30 = .ok (.aload_n 0, 1) := by decide +kernel
theorem dX6_decide_31 : decode cX6_decide 31 = .ok (.getfield 10, 3) := by decide +kernel
theorem dX6_decide_34 : decode cX6_decide 34 = .ok (.invokevirtual 55, 3) := by decide +kernel
theorem dX6_decide_37 : decode cX6_decide 37 = .ok (.iload_n 2, 1) := by decide +kernel
theorem dX6_decide_38 : decode cX6_decide 38 = .ok (.ifCond .eq 17, 3) := by decide +kernel
theorem dX6_decide_41 : decode cX6_decide 41 = .ok (.aload_n 3, 1) := by decide +kernel
theorem dX6_decide_42 : decode cX6_decide 42 = .ok (.aload_n 0, 1) := by decide +kernel
theorem dX6_decide_43 : decode cX6_decide 43 = .ok (.getfield 10, 3) := by decide +kernel
theorem dX6_decide_46 : decode cX6_decide 46 = .ok (.invokevirtual 63, 3) := by decide +kernel
theorem dX6_decide_49 : decode cX6_decide 49 = .ok (.invokevirtual 157, 3) := by decide +kernel
theorem dX6_decide_52 : decode cX6_decide 52 = .ok (.goto 7, 3) := by decide +kernel
theorem dX6_decide_55 : decode cX6_decide 55 = .ok (.aload_n 3, 1) := by decide +kernel
theorem dX6_decide_56 : decode cX6_decide 56 = .ok (.invokevirtual 163, 3) := by decide +kernel
theorem dX6_decide_59 : decode cX6_decide 59 = .ok (.aload_n 0, 1) := by decide +kernel
theorem dX6_decide_60 : decode cX6_decide 60 = .ok (.getfield 10, 3) := by decide +kernel
theorem dX6_decide_63 : decode cX6_decide 63 = .ok (.iconst 1, 1) := by decide +kernel
theorem dX6_decide_64 : decode cX6_decide 64 = .ok (.invokevirtual 166, 3) := by decide +kernel
theorem dX6_decide_67 : decode cX6_decide 67 = .ok (.ireturn, 1) := by decide +kernel
theorem dX6_print_0 : decode cX6_print 0 = .ok (.aload_n 0, 1) := by decide +kernel
theorem dX6_print_1 : decode cX6_print 1 = .ok (.getfield 10, 3) := by decide +kernel
theorem dX6_print_4 : decode cX6_print 4 = .ok (.invokevirtual 63, 3) := by decide +kernel
theorem dX6_print_7 : decode cX6_print 7 = .ok (.sipush 9999, 3) := by decide +kernel
theorem dX6_print_10 : decode cX6_print 10 = .ok (.if_icmp .lt 6, 3) := by decide +kernel
theorem dX6_print_13 : decode cX6_print 13 = .ok (.bipush (-3), 2) := by decide +kernel
theorem dX6_print_15 : decode cX6_print 15 = .ok (.ireturn, 1) := by decide +kernel
theorem dX6_print_16 : decode cX6_print 16 = .ok (.aload_n 0, 1) := by decide +kernel
theorem dX6_print_17 : decode cX6_print 17 = .ok (.getfield 22, 3) := by decide +kernel
theorem dX6_print_20 : decode cX6_print 20 = .ok (.aload_n 0, 1) := by decide +kernel
theorem dX6_print_21 : decode cX6_print 21 = .ok (.getfield 10, 3) := by decide +kernel
theorem dX6_print_24 : decode cX6_print 24 = .ok (.invokevirtual 55, 3) := by decide +kernel
theorem dX6_print_27 : decode cX6_print 27 = .ok (.aload_n 0, 1) := by decide +kernel
theorem dX6_print_28 : decode cX6_print 28 = .ok (.getfield 43, 3) := by decide +kernel
theorem dX6_print_31 : decode cX6_print 31 = .ok (.aload_n 0, 1) := by decide +kernel
theorem dX6_print_32 : decode cX6_print 32 = .ok (.getfield 10, 3) := by decide +kernel
theorem dX6_print_35 : decode cX6_print 35 = .ok (.invokevirtual 169, 3) := by decide +kernel
theorem dX6_print_38 : decode cX6_print 38 = .ok (.aload_n 0, 1) := by decide +kernel
theorem dX6_print_39 : decode cX6_print 39 = .ok (.getfield 43, 3) := by decide +kernel
theorem dX6_print_42 : decode cX6_print 42 = .ok (.invokevirtual 172, 3) := by decide +kernel
theorem dX6_print_45 : decode cX6_print 45 = .ok (.istore_n 1, 1) := by decide +kernel
theorem dX6_print_46 : decode cX6_print 46 = .ok (.iconst 0, 1) := by decide +kernel
theorem dX6_print_47 : decode cX6_print 47 = .ok (.istore_n 2, 1) := by decide +kernel
theorem dX6_print_48 : decode cX6_print 48 = .ok (.iload_n 2, 1) := by decide +kernel
theorem dX6_print_49 : decode cX6_print 49 = .ok (.iload_n 1, 1) := by decide +kernel
theorem dX6_print_50 : decode cX6_print 50 = .ok (.if_icmp .ge 24, 3) := by decide +kernel
theorem dX6_print_53 : decode cX6_print 53 = .ok (.aload_n 0, 1) := by decide +kernel
theorem dX6_print_54 : decode cX6_print 54 = .ok (.getfield 10, 3) := by decide +kernel
theorem dX6_print_57 : decode cX6_print 57 = .ok (.aload_n 0, 1) := by decide +kernel
theorem dX6_print_58 : decode cX6_print 58 = .ok (.getfield 43, 3) := by decide +kernel
theorem dX6_print_61 : decode cX6_print 61 = .ok (.iload_n 2, 1) := by decide +kernel
theorem dX6_print_62 : decode cX6_print 62 = .ok (.invokevirtual 173, 3) := by decide +kernel
theorem dX6_print_65 : decode cX6_print 65 = .ok (.invokevirtual 176, 3) := by decide +kernel
theorem dX6_print_68 : decode cX6_print 68 = .ok (.iinc 2 1, 3) := by decide +kernel
theorem dX6_print_71 : decode cX6_print 71 = .ok (.goto (-23), 3) := by decide +kernel
theorem dX6_print_74 : decode cX6_print 74 = .ok (.aload_n 0, 1) := by decide +kernel
theorem dX6_print_75 : decode cX6_print 75 = .ok (.getfield 10, 3) := by decide +kernel
theorem dX6_print_78 : decode cX6_print 78 = .ok (.invokevirtual 179, 3) := by decide +kernel
theorem dX6_print_81 : decode cX6_print 81 = .ok (.aload_n 0, 1) := by decide +kernel
theorem dX6_print_82 : decode cX6_print 82 = .ok (.getfield 10, 3) := by decide +kernel
theorem dX6_print_85 : decode cX6_print 85 = .ok (.invokevirtual 182, 3) := by decide +kernel
theorem dX6_print_88 : decode cX6_print 88 = .ok (.iload_n 1, 1) := by decide +kernel
theorem dX6_print_89 : decode cX6_print 89 = .ok (.ireturn, 1) := by decide +kernel
theorem dX6_correct_0 : decode cX6_correct 0 = .ok (.aload_n 0, 1) := by decide +kernel
theorem dX6_correct_1 : decode cX6_correct 1 = .ok (.getfield 10, 3) := by decide +kernel
theorem dX6_correct_4 : decode cX6_correct 4 = .ok (.iload_n 1, 1) := by decide +kernel
theorem dX6_correct_5 : decode cX6_correct 5 = .ok (.invokevirtual 84, 3) := by decide +kernel
theorem dX6_correct_8 : decode cX6_correct 8 = .ok (.astore 4, 2) := by decide +kernel
theorem dX6_correct_10 : decode cX6_correct 10 = .ok (.aload 4, 2) := by decide +kernel
theorem dX6_correct_12 : decode cX6_correct 12 = .ok (.ifnull 19, 3) := by decide +kernel
theorem dX6_correct_15 : decode cX6_correct 15 = .ok (.aload 4, 2) := by decide +kernel
theorem dX6_correct_17 : decode cX6_correct 17 = .ok (.iload_n 2, 1) := by decide +kernel
theorem dX6_correct_18 : decode cX6_correct 18 = .ok (.invokevirtual 109, 3) := by decide +kernel
theorem dX6_correct_21 : decode cX6_correct 21 = .ok (.ifCond .eq 10, 3) := by decide +kernel
theorem dX6_correct_24 : decode cX6_correct 24 = .ok (.iload_n 3, 1) := by decide +kernel
theorem dX6_correct_25 : decode cX6_correct 25 = .ok (.invokestatic 87, 3) := by decide +kernel
theorem dX6_correct_28 : decode cX6_correct 28 = .ok (.ifCond .ne 5, 3) := by decide +kernel
theorem dX6_correct_31 : decode cX6_correct 31 = .ok (.iconst (-1), 1) := by decide +kernel
theorem dX6_correct_32 : decode cX6_correct 32 = .ok (.ireturn, 1) := by decide +kernel
theorem dX6_correct_33 : decode cX6_correct 33 = .ok (.aload 4, 2) := by decide +kernel
theorem dX6_correct_35 : decode cX6_correct 35 = .ok (.iconst 3, 1) := by decide +kernel
theorem dX6_correct_36 : decode cX6_correct 36 = .ok (.invokevirtual 90, 3) := by decide +kernel
theorem dX6_correct_39 : decode cX6_correct 39 = .ok (.ifCond .ne 6, 3) := by decide +kernel
theorem dX6_correct_42 : decode cX6_correct 42 = .ok (.bipush (-4), 2) := by decide +kernel
theorem dX6_correct_44 : decode cX6_correct 44 = .ok (.ireturn, 1) := by decide +kernel
theorem dX6_correct_45 : decode cX6_correct 45 = .ok (.aload 4, 2) := by decide +kernel
theorem dX6_correct_47 : decode cX6_correct 47 = .ok (.iload_n 2, 1) := by decide +kernel
theorem dX6_correct_48 : decode cX6_correct 48 = .ok (.invokevirtual 185, 3) := by decide +kernel
theorem dX6_correct_51 : decode cX6_correct 51 = .ok (.iload_n 3, 1) := by decide +kernel
theorem dX6_correct_52 : decode cX6_correct 52 = .ok (.if_icmp .ne 6, 3) := by decide +kernel
theorem dX6_correct_55 : decode cX6_correct 55 = .ok (.bipush (-5), 2) := by decide +kernel
theorem dX6_correct_57 : decode cX6_correct 57 = .ok (.ireturn, 1) := by decide +kernel
theorem dX6_correct_58 : decode cX6_correct 58 = .ok (.aload_n 0, 1) := by decide +kernel
theorem dX6_correct_59 : decode cX6_correct 59 = .ok (.getfield 22, 3) := by decide +kernel
theorem dX6_correct_62 : decode cX6_correct 62 = .ok (.aload_n 0, 1) := by decide +kernel
theorem dX6_correct_63 : decode cX6_correct 63 = .ok (.getfield 10, 3) := by decide +kernel
theorem dX6_correct_66 : decode cX6_correct 66 = .ok (.invokevirtual 55, 3) := by decide +kernel
theorem dX6_correct_69 : decode cX6_correct 69 = .ok (.aload 4, 2) := by decide +kernel
theorem dX6_correct_71 : decode cX6_correct 71 = .ok (.iload_n 2, 1) := by decide +kernel
theorem dX6_correct_72 : decode cX6_correct 72 = .ok (.iload_n 3, 1) := by decide +kernel
theorem dX6_correct_73 : decode cX6_correct 73 = .ok (.invokevirtual 188, 3) := by decide +kernel
theorem dX6_correct_76 : decode cX6_correct 76 = .ok (.aload_n 0, 1) := by decide +kernel
theorem dX6_correct_77 : decode cX6_correct 77 = .ok (.getfield 10, 3) := by decide +kernel
theorem dX6_correct_80 : decode cX6_correct 80 = .ok (.invokevirtual 191, 3) := by decide +kernel
theorem dX6_correct_83 : decode cX6_correct 83 = .ok (.ireturn, 1) := by decide +kernel
theorem dX6_type_0 : decode cX6_type 0 = .ok (.aload_n 0, 1) := by decide +kernel
theorem dX6_type_1 : decode cX6_type 1 = .ok (.getfield 29, 3) := by decide +kernel
theorem dX6_type_4 : decode cX6_type 4 = .ok (.iload_n 1, 1) := by decide +kernel
theorem dX6_type_5 : decode cX6_type 5 = .ok (.invokevirtual 194, 3) := by decide +kernel
theorem dX6_type_8 : decode cX6_type 8 = .ok (.ifCond .ne 6, 3) := by decide +kernel
theorem dX6_type_11 : decode cX6_type 11 = .ok (.bipush (-3), 2) := by decide +kernel
theorem dX6_type_13 : decode cX6_type 13 = .ok (.ireturn, 1) := by decide +kernel
theorem dX6_type_14 : decode cX6_type 14 = .ok (.aload_n 0, 1) := by decide +kernel
theorem dX6_type_15 : decode cX6_type 15 = .ok (.getfield 29, 3) := by decide +kernel
theorem dX6_type_18 : decode cX6_type 18 = .ok (.invokevirtual 198, 3) := by decide +kernel
theorem dX6_type_21 : decode cX6_type 21 = .ok (.ireturn, 1) := by decide +kernel
theorem dX6_clearText_0 : decode cX6_clearText 0 = .ok (.aload_n 0, 1) := by decide +kernel
theorem dX6_clearText_1 : decode cX6_clearText 1 = .ok (.getfield 29, 3) := by decide +kernel
theorem dX6_clearText_4 : decode cX6_clearText 4 = .ok (.invokevirtual 198, 3) := by decide +kernel
theorem dX6_clearText_7 : decode cX6_clearText 7 = .ok (.istore_n 1, 1) := by decide +kernel
theorem dX6_clearText_8 : decode cX6_clearText 8 = .ok (.aload_n 0, 1) := by decide +kernel
theorem dX6_clearText_9 : decode cX6_clearText 9 = .ok (.getfield 29, 3) := by decide +kernel
theorem dX6_clearText_12 : decode cX6_clearText 12 = .ok (.invokevirtual 201, 3) := by decide +kernel
theorem dX6_clearText_15 : decode cX6_clearText 15 = .ok (.iload_n 1, 1) := by decide +kernel
theorem dX6_clearText_16 : decode cX6_clearText 16 = .ok (.ireturn, 1) := by decide +kernel
theorem dX6_undo_0 : decode cX6_undo 0 = .ok (.aload_n 0, 1) := by decide +kernel
theorem dX6_undo_1 : decode cX6_undo 1 = .ok (.getfield 22, 3) := by decide +kernel
theorem dX6_undo_4 : decode cX6_undo 4 = .ok (.invokevirtual 204, 3) := by decide +kernel
theorem dX6_undo_7 : decode cX6_undo 7 = .ok (.iconst 1, 1) := by decide +kernel
theorem dX6_undo_8 : decode cX6_undo 8 = .ok (.if_icmp .ge 6, 3) := by decide +kernel
theorem dX6_undo_11 : decode cX6_undo 11 = .ok (.bipush (-5), 2) := by decide +kernel
theorem dX6_undo_13 : decode cX6_undo 13 = .ok (.ireturn, 1) := by decide +kernel
theorem dX6_undo_14 : decode cX6_undo 14 = .ok (.aload_n 0, 1) := by decide +kernel
theorem dX6_undo_15 : decode cX6_undo 15 = .ok (.getfield 22, 3) := by decide +kernel
theorem dX6_undo_18 : decode cX6_undo 18 = .ok (.aload_n 0, 1) := by decide +kernel
theorem dX6_undo_19 : decode cX6_undo 19 = .ok (.getfield 10, 3) := by decide +kernel
theorem dX6_undo_22 : decode cX6_undo 22 = .ok (.invokevirtual 205, 3) := by decide +kernel
theorem dX6_undo_25 : decode cX6_undo 25 = .ok (.aload_n 0, 1) := by decide +kernel
theorem dX6_undo_26 : decode cX6_undo 26 = .ok (.getfield 22, 3) := by decide +kernel
theorem dX6_undo_29 : decode cX6_undo 29 = .ok (.invokevirtual 204, 3) := by decide +kernel
theorem dX6_undo_32 : decode cX6_undo 32 = .ok (.ireturn, 1) := by decide +kernel
theorem dX6_keep_0 : decode cX6_keep 0 = .ok (.aload_n 0, 1) := by decide +kernel
theorem dX6_keep_1 : decode cX6_keep 1 = .ok (.getfield 16, 3) := by decide +kernel
theorem dX6_keep_4 : decode cX6_keep 4 = .ok (.aload_n 0, 1) := by decide +kernel
theorem dX6_keep_5 : decode cX6_keep 5 = .ok (.getfield 10, 3) := by decide +kernel
theorem dX6_keep_8 : decode cX6_keep 8 = .ok (.invokevirtual 208, 3) := by decide +kernel
theorem dX6_keep_11 : decode cX6_keep 11 = .ok (.aload_n 0, 1) := by decide +kernel
theorem dX6_keep_12 : decode cX6_keep 12 = .ok (.iconst 1, 1) := by decide +kernel
theorem dX6_keep_13 : decode cX6_keep 13 = .ok (.putfield 211, 3) := by decide +kernel
theorem dX6_keep_16 : decode cX6_keep 16 = .ok (.aload_n 0, 1) := by decide +kernel
theorem dX6_keep_17 : decode cX6_keep 17 = .ok (.getfield 10, 3) := by decide +kernel
theorem dX6_keep_20 : decode cX6_keep 20 = .ok (.invokevirtual 63, 3) := by decide +kernel
theorem dX6_keep_23 : decode cX6_keep 23 = .ok (.ireturn, 1) := by decide +kernel
theorem dX6_restore_0 : decode cX6_restore 0 = .ok (.aload_n 0, 1) := by decide +kernel
theorem dX6_restore_1 : decode cX6_restore 1 = .ok (.getfield 211, 3) := by decide +kernel
theorem dX6_restore_4 : decode cX6_restore 4 = .ok (.ifCond .ne 6, 3) := by decide +kernel
theorem dX6_restore_7 : decode cX6_restore 7 = .ok (.bipush (-5), 2) := by decide +kernel
theorem dX6_restore_9 : decode cX6_restore 9 = .ok (.ireturn, 1) := by decide +kernel
theorem dX6_restore_10 : decode cX6_restore 10 = .ok (.aload_n 0, 1) := by decide +kernel
theorem dX6_restore_11 : decode cX6_restore 11 = .ok (.getfield 22, 3) := by decide +kernel
theorem dX6_restore_14 : decode cX6_restore 14 = .ok (.aload_n 0, 1) := by decide +kernel
theorem dX6_restore_15 : decode cX6_restore 15 = .ok (.getfield 10, 3) := by decide +kernel
theorem dX6_restore_18 : decode cX6_restore 18 = .ok (.invokevirtual 55, 3) := by decide +kernel
theorem dX6_restore_21 : decode cX6_restore 21 = .ok (.aload_n 0, 1) := by decide +kernel
theorem dX6_restore_22 : decode cX6_restore 22 = .ok (.getfield 10, 3) := by decide +kernel
theorem dX6_restore_25 : decode cX6_restore 25 = .ok (.aload_n 0, 1) := by decide +kernel
theorem dX6_restore_26 : decode cX6_restore 26 = .ok (.getfield 16, 3) := by decide +kernel
theorem dX6_restore_29 : decode cX6_restore 29 = .ok (.invokevirtual 208, 3) := by decide +kernel
theorem dX6_restore_32 : decode cX6_restore 32 = .ok (.aload_n 0, 1) := by decide +kernel
theorem dX6_restore_33 : decode cX6_restore 33 = .ok (.getfield 10, 3) := by decide +kernel
theorem dX6_restore_36 : decode cX6_restore 36 = .ok (.invokevirtual 63, 3) := by decide +kernel
theorem dX6_restore_39 : decode cX6_restore 39 = .ok (.ireturn, 1) := by decide +kernel
theorem dX6_person_0 : decode cX6_person 0 = .ok (.aload_n 0, 1) := by decide +kernel
theorem dX6_person_1 : decode cX6_person 1 = .ok (.getfield 10, 3) := by decide +kernel
theorem dX6_person_4 : decode cX6_person 4 = .ok (.iload_n 1, 1) := by decide +kernel
theorem dX6_person_5 : decode cX6_person 5 = .ok (.invokevirtual 84, 3) := by decide +kernel
theorem dX6_person_8 : decode cX6_person 8 = .ok (.astore_n 3, 1) := by decide +kernel
theorem dX6_person_9 : decode cX6_person 9 = .ok (.aload_n 3, 1) := by decide +kernel
theorem dX6_person_10 : decode cX6_person 10 = .ok (.ifnonnull 5, 3) := by decide +kernel
theorem dX6_person_13 : decode cX6_person 13 = .ok (.iconst (-1), 1) := by decide +kernel
theorem dX6_person_14 : decode cX6_person 14 = .ok (.ireturn, 1) := by decide +kernel
theorem dX6_person_15 : decode cX6_person 15 = .ok (.iload_n 2, 1) := by decide +kernel
theorem dX6_person_16 : decode cX6_person 16 = .ok (.tableswitch 155 0 10 #[60, 65, 70, 75, 80, 85, 101, 106, 128, 133, 138], 60) := by decide +kernel
theorem dX6_person_76 : decode cX6_person 76 = .ok (.aload_n 3, 1) := by decide +kernel
theorem dX6_person_77 : decode cX6_person 77 = .ok (.invokevirtual 215, 3) := by decide +kernel
theorem dX6_person_80 : decode cX6_person 80 = .ok (.ireturn, 1) := by decide +kernel
theorem dX6_person_81 : decode cX6_person 81 = .ok (.aload_n 3, 1) := by decide +kernel
theorem dX6_person_82 : decode cX6_person 82 = .ok (.invokevirtual 218, 3) := by decide +kernel
theorem dX6_person_85 : decode cX6_person 85 = .ok (.ireturn, 1) := by decide +kernel
theorem dX6_person_86 : decode cX6_person 86 = .ok (.aload_n 3, 1) := by decide +kernel
theorem dX6_person_87 : decode cX6_person 87 = .ok (.invokevirtual 221, 3) := by decide +kernel
theorem dX6_person_90 : decode cX6_person 90 = .ok (.ireturn, 1) := by decide +kernel
theorem dX6_person_91 : decode cX6_person 91 = .ok (.aload_n 3, 1) := by decide +kernel
theorem dX6_person_92 : decode cX6_person 92 = .ok (.invokevirtual 95, 3) := by decide +kernel
theorem dX6_person_95 : decode cX6_person 95 = .ok (.ireturn, 1) := by decide +kernel
theorem dX6_person_96 : decode cX6_person 96 = .ok (.aload_n 3, 1) := by decide +kernel
theorem dX6_person_97 : decode cX6_person 97 = .ok (.invokevirtual 224, 3) := by decide +kernel
theorem dX6_person_100 : decode cX6_person 100 = .ok (.ireturn, 1) := by decide +kernel
theorem dX6_person_101 : decode cX6_person 101 = .ok (.aload_n 0, 1) := by decide +kernel
theorem dX6_person_102 : decode cX6_person 102 = .ok (.getfield 10, 3) := by decide +kernel
theorem dX6_person_105 : decode cX6_person 105 = .ok (.aload_n 3, 1) := by decide +kernel
theorem dX6_person_106 : decode cX6_person 106 = .ok (.aload_n 0, 1) := by decide +kernel
theorem dX6_person_107 : decode cX6_person 107 = .ok (.getfield 10, 3) := by decide +kernel
theorem dX6_person_110 : decode cX6_person 110 = .ok (.invokevirtual 63, 3) := by decide +kernel
theorem dX6_person_113 : decode cX6_person 113 = .ok (.invokevirtual 225, 3) := by decide +kernel
theorem dX6_person_116 : decode cX6_person 116 = .ok (.ireturn, 1) := by decide +kernel
theorem dX6_person_117 : decode cX6_person 117 = .ok (.aload_n 3, 1) := by decide +kernel
theorem dX6_person_118 : decode cX6_person 118 = .ok (.invokevirtual 229, 3) := by decide +kernel
theorem dX6_person_121 : decode cX6_person 121 = .ok (.ireturn, 1) := by decide +kernel
theorem dX6_person_122 : decode cX6_person 122 = .ok (.aload_n 3, 1) := by decide +kernel
theorem dX6_person_123 : decode cX6_person 123 = .ok (.iconst 0, 1) := by decide +kernel
theorem dX6_person_124 : decode cX6_person 124 = .ok (.invokevirtual 90, 3) := by decide +kernel
theorem dX6_person_127 : decode cX6_person 127 = .ok (.ifCond .eq 14, 3) := by decide +kernel
theorem dX6_person_130 : decode cX6_person 130 = .ok (.aload_n 0, 1) := by decide +kernel
theorem dX6_person_131 : decode cX6_person 131 = .ok (.getfield 10, 3) := by decide +kernel
theorem dX6_person_134 : decode cX6_person 134 = .ok (.aload_n 3, 1) := by decide +kernel
theorem dX6_person_135 : decode cX6_person 135 = .ok (.invokevirtual 232, 3) := by decide +kernel
theorem dX6_person_138 : decode cX6_person 138 = .ok (.goto 5, 3) := by decide +kernel
theorem dX6_person_141 : decode cX6_person 141 = .ok (.bipush (-5), 2) := by decide +kernel
theorem dX6_person_143 : decode cX6_person 143 = .ok (.ireturn, 1) := by decide +kernel
theorem dX6_person_144 : decode cX6_person 144 = .ok (.aload_n 3, 1) := by decide +kernel
theorem dX6_person_145 : decode cX6_person 145 = .ok (.invokevirtual 235, 3) := by decide +kernel
theorem dX6_person_148 : decode cX6_person 148 = .ok (.ireturn, 1) := by decide +kernel
theorem dX6_person_149 : decode cX6_person 149 = .ok (.aload_n 3, 1) := by decide +kernel
theorem dX6_person_150 : decode cX6_person 150 = .ok (.invokevirtual 238, 3) := by decide +kernel
theorem dX6_person_153 : decode cX6_person 153 = .ok (.ireturn, 1) := by decide +kernel
theorem dX6_person_154 : decode cX6_person 154 = .ok (.aload_n 0, 1) := by decide +kernel
theorem dX6_person_155 : decode cX6_person 155 = .ok (.getfield 10, 3) := by decide +kernel
theorem dX6_person_158 : decode cX6_person 158 = .ok (.aload_n 3, 1) := by decide +kernel
theorem dX6_person_159 : decode cX6_person 159 = .ok (.invokevirtual 241, 3) := by decide +kernel
theorem dX6_person_162 : decode cX6_person 162 = .ok (.ifCond .eq 7, 3) := by decide +kernel
theorem dX6_person_165 : decode cX6_person 165 = .ok (.iconst 1, 1) := by decide +kernel
theorem dX6_person_166 : decode cX6_person 166 = .ok (.goto 4, 3) := by decide +kernel
theorem dX6_person_169 : decode cX6_person 169 = .ok (.iconst 0, 1) := by decide +kernel
theorem dX6_person_170 : decode cX6_person 170 = .ok (.ireturn, 1) := by decide +kernel
theorem dX6_person_171 : decode cX6_person 171 = .ok (.bipush (-2), 2) := by decide +kernel
theorem dX6_person_173 : decode cX6_person 173 = .ok (.ireturn, 1) := by decide +kernel
theorem dX6_fact_0 : decode cX6_fact 0 = .ok (.aload_n 0, 1) := by decide +kernel
theorem dX6_fact_1 : decode cX6_fact 1 = .ok (.getfield 10, 3) := by decide +kernel
theorem dX6_fact_4 : decode cX6_fact 4 = .ok (.iload_n 1, 1) := by decide +kernel
theorem dX6_fact_5 : decode cX6_fact 5 = .ok (.invokevirtual 84, 3) := by decide +kernel
theorem dX6_fact_8 : decode cX6_fact 8 = .ok (.astore 4, 2) := by decide +kernel
theorem dX6_fact_10 : decode cX6_fact 10 = .ok (.aload 4, 2) := by decide +kernel
theorem dX6_fact_12 : decode cX6_fact 12 = .ok (.ifnull 12, 3) := by decide +kernel
theorem dX6_fact_15 : decode cX6_fact 15 = .ok (.aload 4, 2) := by decide +kernel
theorem dX6_fact_17 : decode cX6_fact 17 = .ok (.iload_n 2, 1) := by decide +kernel
theorem dX6_fact_18 : decode cX6_fact 18 = .ok (.invokevirtual 109, 3) := by decide +kernel
theorem dX6_fact_21 : decode cX6_fact 21 = .ok (.ifCond .ne 5, 3) := by decide +kernel
theorem dX6_fact_24 : decode cX6_fact 24 = .ok (.iconst (-1), 1) := by decide +kernel
theorem dX6_fact_25 : decode cX6_fact 25 = .ok (.ireturn, 1) := by decide +kernel
theorem dX6_fact_26 : decode cX6_fact 26 = .ok (.iload_n 3, 1) := by decide +kernel
theorem dX6_fact_27 : decode cX6_fact 27 = .ok (.tableswitch 94 0 4 #[33, 40, 47, 54, 73], 33) := by decide +kernel
theorem dX6_fact_60 : decode cX6_fact 60 = .ok (.aload 4, 2) := by decide +kernel
theorem dX6_fact_62 : decode cX6_fact 62 = .ok (.iload_n 2, 1) := by decide +kernel
theorem dX6_fact_63 : decode cX6_fact 63 = .ok (.invokevirtual 185, 3) := by decide +kernel
theorem dX6_fact_66 : decode cX6_fact 66 = .ok (.ireturn, 1) := by decide +kernel
theorem dX6_fact_67 : decode cX6_fact 67 = .ok (.aload 4, 2) := by decide +kernel
theorem dX6_fact_69 : decode cX6_fact 69 = .ok (.iload_n 2, 1) := by decide +kernel
theorem dX6_fact_70 : decode cX6_fact 70 = .ok (.invokevirtual 245, 3) := by decide +kernel
theorem dX6_fact_73 : decode cX6_fact 73 = .ok (.ireturn, 1) := by decide +kernel
theorem dX6_fact_74 : decode cX6_fact 74 = .ok (.aload 4, 2) := by decide +kernel
theorem dX6_fact_76 : decode cX6_fact 76 = .ok (.iload_n 2, 1) := by decide +kernel
theorem dX6_fact_77 : decode cX6_fact 77 = .ok (.invokevirtual 112, 3) := by decide +kernel
theorem dX6_fact_80 : decode cX6_fact 80 = .ok (.ireturn, 1) := by decide +kernel
theorem dX6_fact_81 : decode cX6_fact 81 = .ok (.aload_n 0, 1) := by decide +kernel
theorem dX6_fact_82 : decode cX6_fact 82 = .ok (.getfield 10, 3) := by decide +kernel
theorem dX6_fact_85 : decode cX6_fact 85 = .ok (.aload 4, 2) := by decide +kernel
theorem dX6_fact_87 : decode cX6_fact 87 = .ok (.iload_n 2, 1) := by decide +kernel
theorem dX6_fact_88 : decode cX6_fact 88 = .ok (.invokevirtual 248, 3) := by decide +kernel
theorem dX6_fact_91 : decode cX6_fact 91 = .ok (.ifCond .eq 7, 3) := by decide +kernel
theorem dX6_fact_94 : decode cX6_fact 94 = .ok (.iconst 1, 1) := by decide +kernel
theorem dX6_fact_95 : decode cX6_fact 95 = .ok (.goto 4, 3) := by decide +kernel
theorem dX6_fact_98 : decode cX6_fact 98 = .ok (.iconst 0, 1) := by decide +kernel
theorem dX6_fact_99 : decode cX6_fact 99 = .ok (.ireturn, 1) := by decide +kernel
theorem dX6_fact_100 : decode cX6_fact 100 = .ok (.aload_n 0, 1) := by decide +kernel
theorem dX6_fact_101 : decode cX6_fact 101 = .ok (.getfield 10, 3) := by decide +kernel
theorem dX6_fact_104 : decode cX6_fact 104 = .ok (.aload 4, 2) := by decide +kernel
theorem dX6_fact_106 : decode cX6_fact 106 = .ok (.iload_n 2, 1) := by decide +kernel
theorem dX6_fact_107 : decode cX6_fact 107 = .ok (.aload_n 0, 1) := by decide +kernel
theorem dX6_fact_108 : decode cX6_fact 108 = .ok (.getfield 10, 3) := by decide +kernel
theorem dX6_fact_111 : decode cX6_fact 111 = .ok (.invokevirtual 63, 3) := by decide +kernel
theorem dX6_fact_114 : decode cX6_fact 114 = .ok (.invokevirtual 252, 3) := by decide +kernel
theorem dX6_fact_117 : decode cX6_fact 117 = .ok (.invokestatic 256, 3) := by decide +kernel
theorem dX6_fact_120 : decode cX6_fact 120 = .ok (.ireturn, 1) := by decide +kernel
theorem dX6_fact_121 : decode cX6_fact 121 = .ok (.bipush (-2), 2) := by decide +kernel
theorem dX6_fact_123 : decode cX6_fact 123 = .ok (.ireturn, 1) := by decide +kernel
theorem dX6_worth_0 : decode cX6_worth 0 = .ok (.aload_n 0, 1) := by decide +kernel
theorem dX6_worth_1 : decode cX6_worth 1 = .ok (.getfield 10, 3) := by decide +kernel
theorem dX6_worth_4 : decode cX6_worth 4 = .ok (.iload_n 1, 1) := by decide +kernel
theorem dX6_worth_5 : decode cX6_worth 5 = .ok (.invokevirtual 84, 3) := by decide +kernel
theorem dX6_worth_8 : decode cX6_worth 8 = .ok (.astore_n 2, 1) := by decide +kernel
theorem dX6_worth_9 : decode cX6_worth 9 = .ok (.aload_n 2, 1) := by decide +kernel
theorem dX6_worth_10 : decode cX6_worth 10 = .ok (.ifnonnull 7, 3) := by decide +kernel
theorem dX6_worth_13 : decode cX6_worth 13 = .ok (.ldc_w 260, 3) := by decide +kernel
theorem dX6_worth_16 : decode cX6_worth 16 = .ok (.freturn, 1) := by decide +kernel
theorem dX6_worth_17 : decode cX6_worth 17 = .ok (.aload_n 0, 1) := by decide +kernel
theorem dX6_worth_18 : decode cX6_worth 18 = .ok (.getfield 10, 3) := by decide +kernel
theorem dX6_worth_21 : decode cX6_worth 21 = .ok (.aload_n 2, 1) := by decide +kernel
theorem dX6_worth_22 : decode cX6_worth 22 = .ok (.invokevirtual 261, 3) := by decide +kernel
theorem dX6_worth_25 : decode cX6_worth 25 = .ok (.freturn, 1) := by decide +kernel
theorem dX6_urgent_0 : decode cX6_urgent 0 = .ok (.iload_n 1, 1) := by decide +kernel
theorem dX6_urgent_1 : decode cX6_urgent 1 = .ok (.ifCond .ge 6, 3) := by decide +kernel
theorem dX6_urgent_4 : decode cX6_urgent 4 = .ok (.bipush (-2), 2) := by decide +kernel
theorem dX6_urgent_6 : decode cX6_urgent 6 = .ok (.ireturn, 1) := by decide +kernel
theorem dX6_urgent_7 : decode cX6_urgent 7 = .ok (.aload_n 0, 1) := by decide +kernel
theorem dX6_urgent_8 : decode cX6_urgent 8 = .ok (.getfield 10, 3) := by decide +kernel
theorem dX6_urgent_11 : decode cX6_urgent 11 = .ok (.aload_n 0, 1) := by decide +kernel
theorem dX6_urgent_12 : decode cX6_urgent 12 = .ok (.getfield 36, 3) := by decide +kernel
theorem dX6_urgent_15 : decode cX6_urgent 15 = .ok (.invokevirtual 265, 3) := by decide +kernel
theorem dX6_urgent_18 : decode cX6_urgent 18 = .ok (.aload_n 0, 1) := by decide +kernel
theorem dX6_urgent_19 : decode cX6_urgent 19 = .ok (.getfield 36, 3) := by decide +kernel
theorem dX6_urgent_22 : decode cX6_urgent 22 = .ok (.iload_n 1, 1) := by decide +kernel
theorem dX6_urgent_23 : decode cX6_urgent 23 = .ok (.invokevirtual 269, 3) := by decide +kernel
theorem dX6_urgent_26 : decode cX6_urgent 26 = .ok (.ireturn, 1) := by decide +kernel
theorem dX6_page_0 : decode cX6_page 0 = .ok (.iload_n 1, 1) := by decide +kernel
theorem dX6_page_1 : decode cX6_page 1 = .ok (.ifCond .ge 6, 3) := by decide +kernel
theorem dX6_page_4 : decode cX6_page 4 = .ok (.bipush (-2), 2) := by decide +kernel
theorem dX6_page_6 : decode cX6_page 6 = .ok (.ireturn, 1) := by decide +kernel
theorem dX6_page_7 : decode cX6_page 7 = .ok (.aload_n 0, 1) := by decide +kernel
theorem dX6_page_8 : decode cX6_page 8 = .ok (.getfield 43, 3) := by decide +kernel
theorem dX6_page_11 : decode cX6_page 11 = .ok (.aload_n 0, 1) := by decide +kernel
theorem dX6_page_12 : decode cX6_page 12 = .ok (.getfield 10, 3) := by decide +kernel
theorem dX6_page_15 : decode cX6_page 15 = .ok (.invokevirtual 169, 3) := by decide +kernel
theorem dX6_page_18 : decode cX6_page 18 = .ok (.aload_n 0, 1) := by decide +kernel
theorem dX6_page_19 : decode cX6_page 19 = .ok (.getfield 43, 3) := by decide +kernel
theorem dX6_page_22 : decode cX6_page 22 = .ok (.iload_n 1, 1) := by decide +kernel
theorem dX6_page_23 : decode cX6_page 23 = .ok (.invokevirtual 173, 3) := by decide +kernel
theorem dX6_page_26 : decode cX6_page 26 = .ok (.ireturn, 1) := by decide +kernel
theorem dX6_source_0 : decode cX6_source 0 = .ok (.iload_n 1, 1) := by decide +kernel
theorem dX6_source_1 : decode cX6_source 1 = .ok (.invokestatic 87, 3) := by decide +kernel
theorem dX6_source_4 : decode cX6_source 4 = .ok (.ifCond .ne 5, 3) := by decide +kernel
theorem dX6_source_7 : decode cX6_source 7 = .ok (.iconst (-1), 1) := by decide +kernel
theorem dX6_source_8 : decode cX6_source 8 = .ok (.ireturn, 1) := by decide +kernel
theorem dX6_source_9 : decode cX6_source 9 = .ok (.iload_n 2, 1) := by decide +kernel
theorem dX6_source_10 : decode cX6_source 10 = .ok (.tableswitch 66 0 3 #[30, 39, 48, 57], 30) := by decide +kernel
theorem dX6_source_40 : decode cX6_source 40 = .ok (.aload_n 0, 1) := by decide +kernel
theorem dX6_source_41 : decode cX6_source 41 = .ok (.getfield 10, 3) := by decide +kernel
theorem dX6_source_44 : decode cX6_source 44 = .ok (.iload_n 1, 1) := by decide +kernel
theorem dX6_source_45 : decode cX6_source 45 = .ok (.invokevirtual 131, 3) := by decide +kernel
theorem dX6_source_48 : decode cX6_source 48 = .ok (.ireturn, 1) := by decide +kernel
theorem dX6_source_49 : decode cX6_source 49 = .ok (.aload_n 0, 1) := by decide +kernel
theorem dX6_source_50 : decode cX6_source 50 = .ok (.getfield 10, 3) := by decide +kernel
theorem dX6_source_53 : decode cX6_source 53 = .ok (.iload_n 1, 1) := by decide +kernel
theorem dX6_source_54 : decode cX6_source 54 = .ok (.invokevirtual 270, 3) := by decide +kernel
theorem dX6_source_57 : decode cX6_source 57 = .ok (.ireturn, 1) := by decide +kernel
theorem dX6_source_58 : decode cX6_source 58 = .ok (.aload_n 0, 1) := by decide +kernel
theorem dX6_source_59 : decode cX6_source 59 = .ok (.getfield 10, 3) := by decide +kernel
theorem dX6_source_62 : decode cX6_source 62 = .ok (.iload_n 1, 1) := by decide +kernel
theorem dX6_source_63 : decode cX6_source 63 = .ok (.invokevirtual 273, 3) := by decide +kernel
theorem dX6_source_66 : decode cX6_source 66 = .ok (.ireturn, 1) := by decide +kernel
theorem dX6_source_67 : decode cX6_source 67 = .ok (.aload_n 0, 1) := by decide +kernel
theorem dX6_source_68 : decode cX6_source 68 = .ok (.getfield 10, 3) := by decide +kernel
theorem dX6_source_71 : decode cX6_source 71 = .ok (.iload_n 1, 1) := by decide +kernel
theorem dX6_source_72 : decode cX6_source 72 = .ok (.invokevirtual 276, 3) := by decide +kernel
theorem dX6_source_75 : decode cX6_source 75 = .ok (.ireturn, 1) := by decide +kernel
theorem dX6_source_76 : decode cX6_source 76 = .ok (.bipush (-2), 2) := by decide +kernel
theorem dX6_source_78 : decode cX6_source 78 = .ok (.ireturn, 1) := by decide +kernel
theorem dX6_staleIn_0 : decode cX6_staleIn 0 = .ok (.iload_n 1, 1) := by decide +kernel
theorem dX6_staleIn_1 : decode cX6_staleIn 1 = .ok (.iconst 0, 1) := by decide +kernel
theorem dX6_staleIn_2 : decode cX6_staleIn 2 = .ok (.sipush 999, 3) := by decide +kernel
theorem dX6_staleIn_5 : decode cX6_staleIn 5 = .ok (.invokestatic 47, 3) := by decide +kernel
theorem dX6_staleIn_8 : decode cX6_staleIn 8 = .ok (.ifCond .ne 6, 3) := by decide +kernel
theorem dX6_staleIn_11 : decode cX6_staleIn 11 = .ok (.bipush (-2), 2) := by decide +kernel
theorem dX6_staleIn_13 : decode cX6_staleIn 13 = .ok (.ireturn, 1) := by decide +kernel
theorem dX6_staleIn_14 : decode cX6_staleIn 14 = .ok (.aload_n 0, 1) := by decide +kernel
theorem dX6_staleIn_15 : decode cX6_staleIn 15 = .ok (.getfield 10, 3) := by decide +kernel
theorem dX6_staleIn_18 : decode cX6_staleIn 18 = .ok (.aload_n 0, 1) := by decide +kernel
theorem dX6_staleIn_19 : decode cX6_staleIn 19 = .ok (.getfield 10, 3) := by decide +kernel
theorem dX6_staleIn_22 : decode cX6_staleIn 22 = .ok (.invokevirtual 63, 3) := by decide +kernel
theorem dX6_staleIn_25 : decode cX6_staleIn 25 = .ok (.iload_n 1, 1) := by decide +kernel
theorem dX6_staleIn_26 : decode cX6_staleIn 26 = .ok (.iadd, 1) := by decide +kernel
theorem dX6_staleIn_27 : decode cX6_staleIn 27 = .ok (.invokevirtual 279, 3) := by decide +kernel
theorem dX6_staleIn_30 : decode cX6_staleIn 30 = .ok (.ireturn, 1) := by decide +kernel
theorem dX6_count_0 : decode cX6_count 0 = .ok (.iload_n 1, 1) := by decide +kernel
theorem dX6_count_1 : decode cX6_count 1 = .ok (.tableswitch 225 0 17 #[87, 95, 103, 111, 120, 129, 138, 147, 155, 170, 189, 197, 197, 197, 197, 197, 209, 217], 87) := by decide +kernel
theorem dX6_count_88 : decode cX6_count 88 = .ok (.aload_n 0, 1) := by decide +kernel
theorem dX6_count_89 : decode cX6_count 89 = .ok (.getfield 10, 3) := by decide +kernel
theorem dX6_count_92 : decode cX6_count 92 = .ok (.invokevirtual 63, 3) := by decide +kernel
theorem dX6_count_95 : decode cX6_count 95 = .ok (.ireturn, 1) := by decide +kernel
theorem dX6_count_96 : decode cX6_count 96 = .ok (.aload_n 0, 1) := by decide +kernel
theorem dX6_count_97 : decode cX6_count 97 = .ok (.getfield 10, 3) := by decide +kernel
theorem dX6_count_100 : decode cX6_count 100 = .ok (.invokevirtual 282, 3) := by decide +kernel
theorem dX6_count_103 : decode cX6_count 103 = .ok (.ireturn, 1) := by decide +kernel
theorem dX6_count_104 : decode cX6_count 104 = .ok (.aload_n 0, 1) := by decide +kernel
theorem dX6_count_105 : decode cX6_count 105 = .ok (.getfield 10, 3) := by decide +kernel
theorem dX6_count_108 : decode cX6_count 108 = .ok (.invokevirtual 98, 3) := by decide +kernel
theorem dX6_count_111 : decode cX6_count 111 = .ok (.ireturn, 1) := by decide +kernel
theorem dX6_count_112 : decode cX6_count 112 = .ok (.aload_n 0, 1) := by decide +kernel
theorem dX6_count_113 : decode cX6_count 113 = .ok (.getfield 10, 3) := by decide +kernel
theorem dX6_count_116 : decode cX6_count 116 = .ok (.iconst 0, 1) := by decide +kernel
theorem dX6_count_117 : decode cX6_count 117 = .ok (.invokevirtual 166, 3) := by decide +kernel
theorem dX6_count_120 : decode cX6_count 120 = .ok (.ireturn, 1) := by decide +kernel
theorem dX6_count_121 : decode cX6_count 121 = .ok (.aload_n 0, 1) := by decide +kernel
theorem dX6_count_122 : decode cX6_count 122 = .ok (.getfield 10, 3) := by decide +kernel
theorem dX6_count_125 : decode cX6_count 125 = .ok (.iconst 1, 1) := by decide +kernel
theorem dX6_count_126 : decode cX6_count 126 = .ok (.invokevirtual 166, 3) := by decide +kernel
theorem dX6_count_129 : decode cX6_count 129 = .ok (.ireturn, 1) := by decide +kernel
theorem dX6_count_130 : decode cX6_count 130 = .ok (.aload_n 0, 1) := by decide +kernel
theorem dX6_count_131 : decode cX6_count 131 = .ok (.getfield 10, 3) := by decide +kernel
theorem dX6_count_134 : decode cX6_count 134 = .ok (.iconst 2, 1) := by decide +kernel
theorem dX6_count_135 : decode cX6_count 135 = .ok (.invokevirtual 166, 3) := by decide +kernel
theorem dX6_count_138 : decode cX6_count 138 = .ok (.ireturn, 1) := by decide +kernel
theorem dX6_count_139 : decode cX6_count 139 = .ok (.aload_n 0, 1) := by decide +kernel
theorem dX6_count_140 : decode cX6_count 140 = .ok (.getfield 10, 3) := by decide +kernel
theorem dX6_count_143 : decode cX6_count 143 = .ok (.iconst 3, 1) := by decide +kernel
theorem dX6_count_144 : decode cX6_count 144 = .ok (.invokevirtual 166, 3) := by decide +kernel
theorem dX6_count_147 : decode cX6_count 147 = .ok (.ireturn, 1) := by decide +kernel
theorem dX6_count_148 : decode cX6_count 148 = .ok (.aload_n 0, 1) := by decide +kernel
theorem dX6_count_149 : decode cX6_count 149 = .ok (.getfield 10, 3) := by decide +kernel
theorem dX6_count_152 : decode cX6_count 152 = .ok (.invokevirtual 285, 3) := by decide +kernel
theorem dX6_count_155 : decode cX6_count 155 = .ok (.ireturn, 1) := by decide +kernel
theorem dX6_count_156 : decode cX6_count 156 = .ok (.aload_n 0, 1) := by decide +kernel
theorem dX6_count_157 : decode cX6_count 157 = .ok (.getfield 10, 3) := by decide +kernel
theorem dX6_count_160 : decode cX6_count 160 = .ok (.aload_n 0, 1) := by decide +kernel
theorem dX6_count_161 : decode cX6_count 161 = .ok (.getfield 10, 3) := by decide +kernel
theorem dX6_count_164 : decode cX6_count 164 = .ok (.invokevirtual 63, 3) := by decide +kernel
theorem dX6_count_167 : decode cX6_count 167 = .ok (.invokevirtual 279, 3) := by decide +kernel
theorem dX6_count_170 : decode cX6_count 170 = .ok (.ireturn, 1) := by decide +kernel
theorem dX6_count_171 : decode cX6_count 171 = .ok (.aload_n 0, 1) := by decide +kernel
theorem dX6_count_172 : decode cX6_count 172 = .ok (.getfield 43, 3) := by decide +kernel
theorem dX6_count_175 : decode cX6_count 175 = .ok (.aload_n 0, 1) := by decide +kernel
theorem dX6_count_176 : decode cX6_count 176 = .ok (.getfield 10, 3) := by decide +kernel
theorem dX6_count_179 : decode cX6_count 179 = .ok (.invokevirtual 169, 3) := by decide +kernel
theorem dX6_count_182 : decode cX6_count 182 = .ok (.aload_n 0, 1) := by decide +kernel
theorem dX6_count_183 : decode cX6_count 183 = .ok (.getfield 43, 3) := by decide +kernel
theorem dX6_count_186 : decode cX6_count 186 = .ok (.invokevirtual 288, 3) := by decide +kernel
theorem dX6_count_189 : decode cX6_count 189 = .ok (.ireturn, 1) := by decide +kernel
theorem dX6_count_190 : decode cX6_count 190 = .ok (.aload_n 0, 1) := by decide +kernel
theorem dX6_count_191 : decode cX6_count 191 = .ok (.getfield 10, 3) := by decide +kernel
theorem dX6_count_194 : decode cX6_count 194 = .ok (.invokevirtual 291, 3) := by decide +kernel
theorem dX6_count_197 : decode cX6_count 197 = .ok (.ireturn, 1) := by decide +kernel
theorem dX6_count_198 : decode cX6_count 198 = .ok (.aload_n 0, 1) := by decide +kernel
theorem dX6_count_199 : decode cX6_count 199 = .ok (.getfield 10, 3) := by decide +kernel
theorem dX6_count_202 : decode cX6_count 202 = .ok (.iload_n 1, 1) := by decide +kernel
theorem dX6_count_203 : decode cX6_count 203 = .ok (.bipush 11, 2) := by decide +kernel
theorem dX6_count_205 : decode cX6_count 205 = .ok (.isub, 1) := by decide +kernel
theorem dX6_count_206 : decode cX6_count 206 = .ok (.invokevirtual 148, 3) := by decide +kernel
theorem dX6_count_209 : decode cX6_count 209 = .ok (.ireturn, 1) := by decide +kernel
theorem dX6_count_210 : decode cX6_count 210 = .ok (.aload_n 0, 1) := by decide +kernel
theorem dX6_count_211 : decode cX6_count 211 = .ok (.getfield 22, 3) := by decide +kernel
theorem dX6_count_214 : decode cX6_count 214 = .ok (.invokevirtual 204, 3) := by decide +kernel
theorem dX6_count_217 : decode cX6_count 217 = .ok (.ireturn, 1) := by decide +kernel
theorem dX6_count_218 : decode cX6_count 218 = .ok (.aload_n 0, 1) := by decide +kernel
theorem dX6_count_219 : decode cX6_count 219 = .ok (.getfield 29, 3) := by decide +kernel
theorem dX6_count_222 : decode cX6_count 222 = .ok (.invokevirtual 198, 3) := by decide +kernel
theorem dX6_count_225 : decode cX6_count 225 = .ok (.ireturn, 1) := by decide +kernel
theorem dX6_count_226 : decode cX6_count 226 = .ok (.bipush (-2), 2) := by decide +kernel
theorem dX6_count_228 : decode cX6_count 228 = .ok (.ireturn, 1) := by decide +kernel
theorem dX6_isWithin_0 : decode cX6_isWithin 0 = .ok (.iload_n 0, 1) := by decide +kernel
theorem dX6_isWithin_1 : decode cX6_isWithin 1 = .ok (.iload_n 1, 1) := by decide +kernel
theorem dX6_isWithin_2 : decode cX6_isWithin 2 = .ok (.if_icmp .lt 12, 3) := by decide +kernel
theorem dX6_isWithin_5 : decode cX6_isWithin 5 = .ok (.iload_n 0, 1) := by decide +kernel
theorem dX6_isWithin_6 : decode cX6_isWithin 6 = .ok (.iload_n 2, 1) := by decide +kernel
theorem dX6_isWithin_7 : decode cX6_isWithin 7 = .ok (.if_icmp .gt 7, 3) := by decide +kernel
theorem dX6_isWithin_10 : decode cX6_isWithin 10 = .ok (.iconst 1, 1) := by decide +kernel
theorem dX6_isWithin_11 : decode cX6_isWithin 11 = .ok (.goto 4, 3) := by decide +kernel
theorem dX6_isWithin_14 : decode cX6_isWithin 14 = .ok (.iconst 0, 1) := by decide +kernel
theorem dX6_isWithin_15 : decode cX6_isWithin 15 = .ok (.ireturn, 1) := by decide +kernel
theorem dX6_isSource_0 : decode cX6_isSource 0 = .ok (.iload_n 0, 1) := by decide +kernel
theorem dX6_isSource_1 : decode cX6_isSource 1 = .ok (.ifCond .lt 13, 3) := by decide +kernel
theorem dX6_isSource_4 : decode cX6_isSource 4 = .ok (.iload_n 0, 1) := by decide +kernel
theorem dX6_isSource_5 : decode cX6_isSource 5 = .ok (.bipush 6, 2) := by decide +kernel
theorem dX6_isSource_7 : decode cX6_isSource 7 = .ok (.if_icmp .ge 7, 3) := by decide +kernel
theorem dX6_isSource_10 : decode cX6_isSource 10 = .ok (.iconst 1, 1) := by decide +kernel
theorem dX6_isSource_11 : decode cX6_isSource 11 = .ok (.goto 4, 3) := by decide +kernel
theorem dX6_isSource_14 : decode cX6_isSource 14 = .ok (.iconst 0, 1) := by decide +kernel
theorem dX6_isSource_15 : decode cX6_isSource 15 = .ok (.ireturn, 1) := by decide +kernel
theorem dX6_isSetting_0 : decode cX6_isSetting 0 = .ok (.iload_n 0, 1) := by decide +kernel
theorem dX6_isSetting_1 : decode cX6_isSetting 1 = .ok (.ifCond .lt 12, 3) := by decide +kernel
theorem dX6_isSetting_4 : decode cX6_isSetting 4 = .ok (.iload_n 0, 1) := by decide +kernel
theorem dX6_isSetting_5 : decode cX6_isSetting 5 = .ok (.iconst 5, 1) := by decide +kernel
theorem dX6_isSetting_6 : decode cX6_isSetting 6 = .ok (.if_icmp .ge 7, 3) := by decide +kernel
theorem dX6_isSetting_9 : decode cX6_isSetting 9 = .ok (.iconst 1, 1) := by decide +kernel
theorem dX6_isSetting_10 : decode cX6_isSetting 10 = .ok (.goto 4, 3) := by decide +kernel
theorem dX6_isSetting_13 : decode cX6_isSetting 13 = .ok (.iconst 0, 1) := by decide +kernel
theorem dX6_isSetting_14 : decode cX6_isSetting 14 = .ok (.ireturn, 1) := by decide +kernel
theorem dX6_bitsOf_0 : decode cX6_bitsOf 0 = .ok (.fload_n 0, 1) := by decide +kernel
theorem dX6_bitsOf_1 : decode cX6_bitsOf 1 = .ok (.fstore_n 1, 1) := by decide +kernel
theorem dX6_bitsOf_2 : decode cX6_bitsOf 2 = .ok (.bipush 127, 2) := by decide +kernel
theorem dX6_bitsOf_4 : decode cX6_bitsOf 4 = .ok (.istore_n 2, 1) := by decide +kernel
theorem dX6_bitsOf_5 : decode cX6_bitsOf 5 = .ok (.fload_n 1, 1) := by decide +kernel
theorem dX6_bitsOf_6 : decode cX6_bitsOf 6 = .ok (.fconst 1, 1) := by decide +kernel
theorem dX6_bitsOf_7 : decode cX6_bitsOf 7 = .ok (.fcmp .g, 1) := by decide +kernel
theorem dX6_bitsOf_8 : decode cX6_bitsOf 8 = .ok (.ifCond .ge 18, 3) := by decide +kernel
theorem dX6_bitsOf_11 : decode cX6_bitsOf 11 = .ok (.iload_n 2, 1) := by decide +kernel
theorem dX6_bitsOf_12 : decode cX6_bitsOf 12 = .ok (.iconst 1, 1) := by decide +kernel
theorem dX6_bitsOf_13 : decode cX6_bitsOf 13 = .ok (.if_icmp .le 13, 3) := by decide +kernel
theorem dX6_bitsOf_16 : decode cX6_bitsOf 16 = .ok (.fload_n 1, 1) := by decide +kernel
theorem dX6_bitsOf_17 : decode cX6_bitsOf 17 = .ok (.fconst 2, 1) := by decide +kernel
theorem dX6_bitsOf_18 : decode cX6_bitsOf 18 = .ok (.fmul, 1) := by decide +kernel
theorem dX6_bitsOf_19 : decode cX6_bitsOf 19 = .ok (.fstore_n 1, 1) := by decide +kernel
theorem dX6_bitsOf_20 : decode cX6_bitsOf 20 = .ok (.iinc 2 (-1), 3) := by decide +kernel
theorem dX6_bitsOf_23 : decode cX6_bitsOf 23 = .ok (.goto (-18), 3) := by decide +kernel
theorem dX6_bitsOf_26 : decode cX6_bitsOf 26 = .ok (.fload_n 1, 1) := by decide +kernel
theorem dX6_bitsOf_27 : decode cX6_bitsOf 27 = .ok (.fconst 1, 1) := by decide +kernel
theorem dX6_bitsOf_28 : decode cX6_bitsOf 28 = .ok (.fcmp .g, 1) := by decide +kernel
theorem dX6_bitsOf_29 : decode cX6_bitsOf 29 = .ok (.ifCond .ge 10, 3) := by decide +kernel
theorem dX6_bitsOf_32 : decode cX6_bitsOf 32 = .ok (.fload_n 1, 1) := by decide +kernel
theorem dX6_bitsOf_33 : decode cX6_bitsOf 33 = .ok (.ldc_w 294, 3) := by decide +kernel
theorem dX6_bitsOf_36 : decode cX6_bitsOf 36 = .ok (.fmul, 1) := by decide +kernel
theorem dX6_bitsOf_37 : decode cX6_bitsOf 37 = .ok (.f2i, 1) := by decide +kernel
theorem dX6_bitsOf_38 : decode cX6_bitsOf 38 = .ok (.ireturn, 1) := by decide +kernel
theorem dX6_bitsOf_39 : decode cX6_bitsOf 39 = .ok (.iload_n 2, 1) := by decide +kernel
theorem dX6_bitsOf_40 : decode cX6_bitsOf 40 = .ok (.bipush 23, 2) := by decide +kernel
theorem dX6_bitsOf_42 : decode cX6_bitsOf 42 = .ok (.ishl, 1) := by decide +kernel
theorem dX6_bitsOf_43 : decode cX6_bitsOf 43 = .ok (.fload_n 1, 1) := by decide +kernel
theorem dX6_bitsOf_44 : decode cX6_bitsOf 44 = .ok (.fconst 1, 1) := by decide +kernel
theorem dX6_bitsOf_45 : decode cX6_bitsOf 45 = .ok (.fsub, 1) := by decide +kernel
theorem dX6_bitsOf_46 : decode cX6_bitsOf 46 = .ok (.ldc_w 294, 3) := by decide +kernel
theorem dX6_bitsOf_49 : decode cX6_bitsOf 49 = .ok (.fmul, 1) := by decide +kernel
theorem dX6_bitsOf_50 : decode cX6_bitsOf 50 = .ok (.f2i, 1) := by decide +kernel
theorem dX6_bitsOf_51 : decode cX6_bitsOf 51 = .ok (.ior, 1) := by decide +kernel
theorem dX6_bitsOf_52 : decode cX6_bitsOf 52 = .ok (.ireturn, 1) := by decide +kernel
theorem dX7_init_0 : decode cX7_init 0 = .ok (.aload_n 0, 1) := by decide +kernel
theorem dX7_init_1 : decode cX7_init 1 = .ok (.invokespecial 1, 3) := by decide +kernel
theorem dX7_init_4 : decode cX7_init 4 = .ok (.aload_n 0, 1) := by decide +kernel
theorem dX7_init_5 : decode cX7_init 5 = .ok (.sipush 656, 3) := by decide +kernel
theorem dX7_init_8 : decode cX7_init 8 = .ok (.newarray .int, 2) := by decide +kernel
theorem dX7_init_10 : decode cX7_init 10 = .ok (.putfield 7, 3) := by decide +kernel
theorem dX7_init_13 : decode cX7_init 13 = .ok (.aload_n 0, 1) := by decide +kernel
theorem dX7_init_14 : decode cX7_init 14 = .ok (.sipush 2624, 3) := by decide +kernel
theorem dX7_init_17 : decode cX7_init 17 = .ok (.newarray .int, 2) := by decide +kernel
theorem dX7_init_19 : decode cX7_init 19 = .ok (.putfield 13, 3) := by decide +kernel
theorem dX7_init_22 : decode cX7_init 22 = .ok (.aload_n 0, 1) := by decide +kernel
theorem dX7_init_23 : decode cX7_init 23 = .ok (.sipush 656, 3) := by decide +kernel
theorem dX7_init_26 : decode cX7_init 26 = .ok (.newarray .int, 2) := by decide +kernel
theorem dX7_init_28 : decode cX7_init 28 = .ok (.putfield 16, 3) := by decide +kernel
theorem dX7_init_31 : decode cX7_init 31 = .ok (.aload_n 0, 1) := by decide +kernel
theorem dX7_init_32 : decode cX7_init 32 = .ok (.bipush 20, 2) := by decide +kernel
theorem dX7_init_34 : decode cX7_init 34 = .ok (.newarray .int, 2) := by decide +kernel
theorem dX7_init_36 : decode cX7_init 36 = .ok (.putfield 19, 3) := by decide +kernel
theorem dX7_init_39 : decode cX7_init 39 = .ok (.aload_n 0, 1) := by decide +kernel
theorem dX7_init_40 : decode cX7_init 40 = .ok (.bipush 20, 2) := by decide +kernel
theorem dX7_init_42 : decode cX7_init 42 = .ok (.newarray .boolean, 2) := by decide +kernel
theorem dX7_init_44 : decode cX7_init 44 = .ok (.putfield 22, 3) := by decide +kernel
theorem dX7_init_47 : decode cX7_init 47 = .ok (.aload_n 0, 1) := by decide +kernel
theorem dX7_init_48 : decode cX7_init 48 = .ok (.bipush 60, 2) := by decide +kernel
theorem dX7_init_50 : decode cX7_init 50 = .ok (.newarray .char, 2) := by decide +kernel
theorem dX7_init_52 : decode cX7_init 52 = .ok (.putfield 26, 3) := by decide +kernel
theorem dX7_init_55 : decode cX7_init 55 = .ok (.aload_n 0, 1) := by decide +kernel
theorem dX7_init_56 : decode cX7_init 56 = .ok (.sipush 400, 3) := by decide +kernel
theorem dX7_init_59 : decode cX7_init 59 = .ok (.newarray .int, 2) := by decide +kernel
theorem dX7_init_61 : decode cX7_init 61 = .ok (.putfield 30, 3) := by decide +kernel
theorem dX7_init_64 : decode cX7_init 64 = .ok (.aload_n 0, 1) := by decide +kernel
theorem dX7_init_65 : decode cX7_init 65 = .ok (.getfield 7, 3) := by decide +kernel
theorem dX7_init_68 : decode cX7_init 68 = .ok (.iconst 2, 1) := by decide +kernel
theorem dX7_init_69 : decode cX7_init 69 = .ok (.bipush 8, 2) := by decide +kernel
theorem dX7_init_71 : decode cX7_init 71 = .ok (.iastore, 1) := by decide +kernel
theorem dX7_init_72 : decode cX7_init 72 = .ok (.aload_n 0, 1) := by decide +kernel
theorem dX7_init_73 : decode cX7_init 73 = .ok (.getfield 7, 3) := by decide +kernel
theorem dX7_init_76 : decode cX7_init 76 = .ok (.iconst 4, 1) := by decide +kernel
theorem dX7_init_77 : decode cX7_init 77 = .ok (.bipush 8, 2) := by decide +kernel
theorem dX7_init_79 : decode cX7_init 79 = .ok (.iastore, 1) := by decide +kernel
theorem dX7_init_80 : decode cX7_init 80 = .ok (.aload_n 0, 1) := by decide +kernel
theorem dX7_init_81 : decode cX7_init 81 = .ok (.getfield 7, 3) := by decide +kernel
theorem dX7_init_84 : decode cX7_init 84 = .ok (.iconst 5, 1) := by decide +kernel
theorem dX7_init_85 : decode cX7_init 85 = .ok (.bipush 40, 2) := by decide +kernel
theorem dX7_init_87 : decode cX7_init 87 = .ok (.iastore, 1) := by decide +kernel
theorem dX7_init_88 : decode cX7_init 88 = .ok (.aload_n 0, 1) := by decide +kernel
theorem dX7_init_89 : decode cX7_init 89 = .ok (.getfield 7, 3) := by decide +kernel
theorem dX7_init_92 : decode cX7_init 92 = .ok (.bipush 6, 2) := by decide +kernel
theorem dX7_init_94 : decode cX7_init 94 = .ok (.bipush 30, 2) := by decide +kernel
theorem dX7_init_96 : decode cX7_init 96 = .ok (.iastore, 1) := by decide +kernel
theorem dX7_init_97 : decode cX7_init 97 = .ok (.aload_n 0, 1) := by decide +kernel
theorem dX7_init_98 : decode cX7_init 98 = .ok (.getfield 7, 3) := by decide +kernel
theorem dX7_init_101 : decode cX7_init 101 = .ok (.bipush 7, 2) := by decide +kernel
theorem dX7_init_103 : decode cX7_init 103 = .ok (.iconst 2, 1) := by decide +kernel
theorem dX7_init_104 : decode cX7_init 104 = .ok (.iastore, 1) := by decide +kernel
theorem dX7_init_105 : decode cX7_init 105 = .ok (.aload_n 0, 1) := by decide +kernel
theorem dX7_init_106 : decode cX7_init 106 = .ok (.getfield 7, 3) := by decide +kernel
theorem dX7_init_109 : decode cX7_init 109 = .ok (.bipush 8, 2) := by decide +kernel
theorem dX7_init_111 : decode cX7_init 111 = .ok (.iconst 3, 1) := by decide +kernel
theorem dX7_init_112 : decode cX7_init 112 = .ok (.iastore, 1) := by decide +kernel
theorem dX7_init_113 : decode cX7_init 113 = .ok (.iconst 0, 1) := by decide +kernel
theorem dX7_init_114 : decode cX7_init 114 = .ok (.istore_n 1, 1) := by decide +kernel
theorem dX7_init_115 : decode cX7_init 115 = .ok (.iload_n 1, 1) := by decide +kernel
theorem dX7_init_116 : decode cX7_init 116 = .ok (.bipush 6, 2) := by decide +kernel
theorem dX7_init_118 : decode cX7_init 118 = .ok (.if_icmp .ge 20, 3) := by decide +kernel
theorem dX7_init_121 : decode cX7_init 121 = .ok (.aload_n 0, 1) := by decide +kernel
theorem dX7_init_122 : decode cX7_init 122 = .ok (.getfield 7, 3) := by decide +kernel
theorem dX7_init_125 : decode cX7_init 125 = .ok (.bipush 9, 2) := by decide +kernel
theorem dX7_init_127 : decode cX7_init 127 = .ok (.iload_n 1, 1) := by decide +kernel
theorem dX7_init_128 : decode cX7_init 128 = .ok (.iadd, 1) := by decide +kernel
theorem dX7_init_129 : decode cX7_init 129 = .ok (.bipush 50, 2) := by decide +kernel
theorem dX7_init_131 : decode cX7_init 131 = .ok (.iastore, 1) := by decide +kernel
theorem dX7_init_132 : decode cX7_init 132 = .ok (.iinc 1 1, 3) := by decide +kernel
theorem dX7_init_135 : decode cX7_init 135 = .ok (.goto (-20), 3) := by decide +kernel
theorem dX7_init_138 : decode cX7_init 138 = .ok (.return_, 1) := by decide +kernel
theorem dX7_in_0 : decode cX7_in 0 = .ok (.iload_n 0, 1) := by decide +kernel
theorem dX7_in_1 : decode cX7_in 1 = .ok (.iload_n 1, 1) := by decide +kernel
theorem dX7_in_2 : decode cX7_in 2 = .ok (.if_icmp .lt 12, 3) := by decide +kernel
theorem dX7_in_5 : decode cX7_in 5 = .ok (.iload_n 0, 1) := by decide +kernel
theorem dX7_in_6 : decode cX7_in 6 = .ok (.iload_n 2, 1) := by decide +kernel
theorem dX7_in_7 : decode cX7_in 7 = .ok (.if_icmp .gt 7, 3) := by decide +kernel
theorem dX7_in_10 : decode cX7_in 10 = .ok (.iconst 1, 1) := by decide +kernel
theorem dX7_in_11 : decode cX7_in 11 = .ok (.goto 4, 3) := by decide +kernel
theorem dX7_in_14 : decode cX7_in 14 = .ok (.iconst 0, 1) := by decide +kernel
theorem dX7_in_15 : decode cX7_in 15 = .ok (.ireturn, 1) := by decide +kernel
theorem dX7_record_0 : decode cX7_record 0 = .ok (.aload_n 0, 1) := by decide +kernel
theorem dX7_record_1 : decode cX7_record 1 = .ok (.getfield 33, 3) := by decide +kernel
theorem dX7_record_4 : decode cX7_record 4 = .ok (.iconst 4, 1) := by decide +kernel
theorem dX7_record_5 : decode cX7_record 5 = .ok (.if_icmp .ne 44, 3) := by decide +kernel
theorem dX7_record_8 : decode cX7_record 8 = .ok (.iconst 0, 1) := by decide +kernel
theorem dX7_record_9 : decode cX7_record 9 = .ok (.istore_n 1, 1) := by decide +kernel
theorem dX7_record_10 : decode cX7_record 10 = .ok (.iload_n 1, 1) := by decide +kernel
theorem dX7_record_11 : decode cX7_record 11 = .ok (.sipush 1968, 3) := by decide +kernel
theorem dX7_record_14 : decode cX7_record 14 = .ok (.if_icmp .ge 25, 3) := by decide +kernel
theorem dX7_record_17 : decode cX7_record 17 = .ok (.aload_n 0, 1) := by decide +kernel
theorem dX7_record_18 : decode cX7_record 18 = .ok (.getfield 13, 3) := by decide +kernel
theorem dX7_record_21 : decode cX7_record 21 = .ok (.iload_n 1, 1) := by decide +kernel
theorem dX7_record_22 : decode cX7_record 22 = .ok (.aload_n 0, 1) := by decide +kernel
theorem dX7_record_23 : decode cX7_record 23 = .ok (.getfield 13, 3) := by decide +kernel
theorem dX7_record_26 : decode cX7_record 26 = .ok (.sipush 656, 3) := by decide +kernel
theorem dX7_record_29 : decode cX7_record 29 = .ok (.iload_n 1, 1) := by decide +kernel
theorem dX7_record_30 : decode cX7_record 30 = .ok (.iadd, 1) := by decide +kernel
theorem dX7_record_31 : decode cX7_record 31 = .ok (.iaload, 1) := by decide +kernel
theorem dX7_record_32 : decode cX7_record 32 = .ok (.iastore, 1) := by decide +kernel
theorem dX7_record_33 : decode cX7_record 33 = .ok (.iinc 1 1, 3) := by decide +kernel
theorem dX7_record_36 : decode cX7_record 36 = .ok (.goto (-26), 3) := by decide +kernel
theorem dX7_record_39 : decode cX7_record 39 = .ok (.aload_n 0, 1) := by decide +kernel
theorem dX7_record_40 : decode cX7_record 40 = .ok (.dup, 1) := by decide +kernel
theorem dX7_record_41 : decode cX7_record 41 = .ok (.getfield 33, 3) := by decide +kernel
theorem dX7_record_44 : decode cX7_record 44 = .ok (.iconst 1, 1) := by decide +kernel
theorem dX7_record_45 : decode cX7_record 45 = .ok (.isub, 1) := by decide +kernel
theorem dX7_record_46 : decode cX7_record 46 = .ok (.putfield 33, 3) := by decide +kernel
theorem dX7_record_49 : decode cX7_record 49 = .ok (.iconst 0, 1) := by decide +kernel
theorem dX7_record_50 : decode cX7_record 50 = .ok (.istore_n 1, 1) := by decide +kernel
theorem dX7_record_51 : decode cX7_record 51 = .ok (.iload_n 1, 1) := by decide +kernel
theorem dX7_record_52 : decode cX7_record 52 = .ok (.sipush 656, 3) := by decide +kernel
theorem dX7_record_55 : decode cX7_record 55 = .ok (.if_icmp .ge 30, 3) := by decide +kernel
theorem dX7_record_58 : decode cX7_record 58 = .ok (.aload_n 0, 1) := by decide +kernel
theorem dX7_record_59 : decode cX7_record 59 = .ok (.getfield 13, 3) := by decide +kernel
theorem dX7_record_62 : decode cX7_record 62 = .ok (.sipush 656, 3) := by decide +kernel
theorem dX7_record_65 : decode cX7_record 65 = .ok (.aload_n 0, 1) := by decide +kernel
theorem dX7_record_66 : decode cX7_record 66 = .ok (.getfield 33, 3) := by decide +kernel
theorem dX7_record_69 : decode cX7_record 69 = .ok (.imul, 1) := by decide +kernel
theorem dX7_record_70 : decode cX7_record 70 = .ok (.iload_n 1, 1) := by decide +kernel
theorem dX7_record_71 : decode cX7_record 71 = .ok (.iadd, 1) := by decide +kernel
theorem dX7_record_72 : decode cX7_record 72 = .ok (.aload_n 0, 1) := by decide +kernel
theorem dX7_record_73 : decode cX7_record 73 = .ok (.getfield 7, 3) := by decide +kernel
theorem dX7_record_76 : decode cX7_record 76 = .ok (.iload_n 1, 1) := by decide +kernel
theorem dX7_record_77 : decode cX7_record 77 = .ok (.iaload, 1) := by decide +kernel
theorem dX7_record_78 : decode cX7_record 78 = .ok (.iastore, 1) := by decide +kernel
theorem dX7_record_79 : decode cX7_record 79 = .ok (.iinc 1 1, 3) := by decide +kernel
theorem dX7_record_82 : decode cX7_record 82 = .ok (.goto (-31), 3) := by decide +kernel
theorem dX7_record_85 : decode cX7_record 85 = .ok (.aload_n 0, 1) := by decide +kernel
theorem dX7_record_86 : decode cX7_record 86 = .ok (.dup, 1) := by decide +kernel
theorem dX7_record_87 : decode cX7_record 87 = .ok (.getfield 33, 3) := by decide +kernel
theorem dX7_record_90 : decode cX7_record 90 = .ok (.iconst 1, 1) := by decide +kernel
theorem dX7_record_91 : decode cX7_record 91 = .ok (.iadd, 1) := by decide +kernel
theorem dX7_record_92 : decode cX7_record 92 = .ok (.putfield 33, 3) := by decide +kernel
theorem dX7_record_95 : decode cX7_record 95 = .ok (.return_, 1) := by decide +kernel
theorem dX7_p_0 : decode cX7_p 0 = .ok (.bipush 16, 2) := by decide +kernel
theorem dX7_p_2 : decode cX7_p 2 = .ok (.bipush 32, 2) := by decide +kernel
theorem dX7_p_4 : decode cX7_p 4 = .ok (.iload_n 0, 1) := by decide +kernel
theorem dX7_p_5 : decode cX7_p 5 = .ok (.imul, 1) := by decide +kernel
theorem dX7_p_6 : decode cX7_p 6 = .ok (.iadd, 1) := by decide +kernel
theorem dX7_p_7 : decode cX7_p 7 = .ok (.ireturn, 1) := by decide +kernel
theorem dX7_f_0 : decode cX7_f 0 = .ok (.bipush 16, 2) := by decide +kernel
theorem dX7_f_2 : decode cX7_f 2 = .ok (.bipush 32, 2) := by decide +kernel
theorem dX7_f_4 : decode cX7_f 4 = .ok (.iload_n 0, 1) := by decide +kernel
theorem dX7_f_5 : decode cX7_f 5 = .ok (.imul, 1) := by decide +kernel
theorem dX7_f_6 : decode cX7_f 6 = .ok (.iadd, 1) := by decide +kernel
theorem dX7_f_7 : decode cX7_f 7 = .ok (.bipush 8, 2) := by decide +kernel
theorem dX7_f_9 : decode cX7_f 9 = .ok (.iadd, 1) := by decide +kernel
theorem dX7_f_10 : decode cX7_f 10 = .ok (.iconst 3, 1) := by decide +kernel
theorem dX7_f_11 : decode cX7_f 11 = .ok (.iload_n 1, 1) := by decide +kernel
theorem dX7_f_12 : decode cX7_f 12 = .ok (.imul, 1) := by decide +kernel
theorem dX7_f_13 : decode cX7_f 13 = .ok (.iadd, 1) := by decide +kernel
theorem dX7_f_14 : decode cX7_f 14 = .ok (.ireturn, 1) := by decide +kernel
theorem dX7_of_0 : decode cX7_of 0 = .ok (.aload_n 0, 1) := by decide +kernel
theorem dX7_of_1 : decode cX7_of 1 = .ok (.getfield 7, 3) := by decide +kernel
theorem dX7_of_4 : decode cX7_of 4 = .ok (.iload_n 1, 1) := by decide +kernel
theorem dX7_of_5 : decode cX7_of 5 = .ok (.invokestatic 37, 3) := by decide +kernel
theorem dX7_of_8 : decode cX7_of 8 = .ok (.iload_n 2, 1) := by decide +kernel
theorem dX7_of_9 : decode cX7_of 9 = .ok (.iadd, 1) := by decide +kernel
theorem dX7_of_10 : decode cX7_of 10 = .ok (.iaload, 1) := by decide +kernel
theorem dX7_of_11 : decode cX7_of 11 = .ok (.ireturn, 1) := by decide +kernel
theorem dX7_isPerson_0 : decode cX7_isPerson 0 = .ok (.iload_n 1, 1) := by decide +kernel
theorem dX7_isPerson_1 : decode cX7_isPerson 1 = .ok (.iconst 0, 1) := by decide +kernel
theorem dX7_isPerson_2 : decode cX7_isPerson 2 = .ok (.aload_n 0, 1) := by decide +kernel
theorem dX7_isPerson_3 : decode cX7_isPerson 3 = .ok (.getfield 7, 3) := by decide +kernel
theorem dX7_isPerson_6 : decode cX7_isPerson 6 = .ok (.iconst 1, 1) := by decide +kernel
theorem dX7_isPerson_7 : decode cX7_isPerson 7 = .ok (.iaload, 1) := by decide +kernel
theorem dX7_isPerson_8 : decode cX7_isPerson 8 = .ok (.iconst 1, 1) := by decide +kernel
theorem dX7_isPerson_9 : decode cX7_isPerson 9 = .ok (.isub, 1) := by decide +kernel
theorem dX7_isPerson_10 : decode cX7_isPerson 10 = .ok (.invokestatic 41, 3) := by decide +kernel
theorem dX7_isPerson_13 : decode cX7_isPerson 13 = .ok (.ireturn, 1) := by decide +kernel
theorem dX7_isFact_0 : decode cX7_isFact 0 = .ok (.aload_n 0, 1) := by decide +kernel
theorem dX7_isFact_1 : decode cX7_isFact 1 = .ok (.iload_n 1, 1) := by decide +kernel
theorem dX7_isFact_2 : decode cX7_isFact 2 = .ok (.invokevirtual 45, 3) := by decide +kernel
theorem dX7_isFact_5 : decode cX7_isFact 5 = .ok (.ifCond .eq 23, 3) := by decide +kernel
theorem dX7_isFact_8 : decode cX7_isFact 8 = .ok (.iload_n 2, 1) := by decide +kernel
theorem dX7_isFact_9 : decode cX7_isFact 9 = .ok (.iconst 0, 1) := by decide +kernel
theorem dX7_isFact_10 : decode cX7_isFact 10 = .ok (.aload_n 0, 1) := by decide +kernel
theorem dX7_isFact_11 : decode cX7_isFact 11 = .ok (.iload_n 1, 1) := by decide +kernel
theorem dX7_isFact_12 : decode cX7_isFact 12 = .ok (.iconst 3, 1) := by decide +kernel
theorem dX7_isFact_13 : decode cX7_isFact 13 = .ok (.invokevirtual 49, 3) := by decide +kernel
theorem dX7_isFact_16 : decode cX7_isFact 16 = .ok (.iconst 1, 1) := by decide +kernel
theorem dX7_isFact_17 : decode cX7_isFact 17 = .ok (.isub, 1) := by decide +kernel
theorem dX7_isFact_18 : decode cX7_isFact 18 = .ok (.invokestatic 41, 3) := by decide +kernel
theorem dX7_isFact_21 : decode cX7_isFact 21 = .ok (.ifCond .eq 7, 3) := by decide +kernel
theorem dX7_isFact_24 : decode cX7_isFact 24 = .ok (.iconst 1, 1) := by decide +kernel
theorem dX7_isFact_25 : decode cX7_isFact 25 = .ok (.goto 4, 3) := by decide +kernel
theorem dX7_isFact_28 : decode cX7_isFact 28 = .ok (.iconst 0, 1) := by decide +kernel
theorem dX7_isFact_29 : decode cX7_isFact 29 = .ok (.ireturn, 1) := by decide +kernel
theorem dX7_worthOn_0 : decode cX7_worthOn 0 = .ok (.aload_n 0, 1) := by decide +kernel
theorem dX7_worthOn_1 : decode cX7_worthOn 1 = .ok (.getfield 7, 3) := by decide +kernel
theorem dX7_worthOn_4 : decode cX7_worthOn 4 = .ok (.bipush 9, 2) := by decide +kernel
theorem dX7_worthOn_6 : decode cX7_worthOn 6 = .ok (.aload_n 0, 1) := by decide +kernel
theorem dX7_worthOn_7 : decode cX7_worthOn 7 = .ok (.getfield 7, 3) := by decide +kernel
theorem dX7_worthOn_10 : decode cX7_worthOn 10 = .ok (.iload_n 1, 1) := by decide +kernel
theorem dX7_worthOn_11 : decode cX7_worthOn 11 = .ok (.iload_n 2, 1) := by decide +kernel
theorem dX7_worthOn_12 : decode cX7_worthOn 12 = .ok (.invokestatic 53, 3) := by decide +kernel
theorem dX7_worthOn_15 : decode cX7_worthOn 15 = .ok (.iaload, 1) := by decide +kernel
theorem dX7_worthOn_16 : decode cX7_worthOn 16 = .ok (.iadd, 1) := by decide +kernel
theorem dX7_worthOn_17 : decode cX7_worthOn 17 = .ok (.iaload, 1) := by decide +kernel
theorem dX7_worthOn_18 : decode cX7_worthOn 18 = .ok (.i2f, 1) := by decide +kernel
theorem dX7_worthOn_19 : decode cX7_worthOn 19 = .ok (.ldc 56, 2) := by decide +kernel
theorem dX7_worthOn_21 : decode cX7_worthOn 21 = .ok (.fdiv, 1) := by decide +kernel
theorem dX7_worthOn_22 : decode cX7_worthOn 22 = .ok (.fstore 4, 2) := by decide +kernel
theorem dX7_worthOn_24 : decode cX7_worthOn 24 = .ok (.iload_n 3, 1) := by decide +kernel
theorem dX7_worthOn_25 : decode cX7_worthOn 25 = .ok (.aload_n 0, 1) := by decide +kernel
theorem dX7_worthOn_26 : decode cX7_worthOn 26 = .ok (.getfield 7, 3) := by decide +kernel
theorem dX7_worthOn_29 : decode cX7_worthOn 29 = .ok (.iload_n 1, 1) := by decide +kernel
theorem dX7_worthOn_30 : decode cX7_worthOn 30 = .ok (.iload_n 2, 1) := by decide +kernel
theorem dX7_worthOn_31 : decode cX7_worthOn 31 = .ok (.invokestatic 53, 3) := by decide +kernel
theorem dX7_worthOn_34 : decode cX7_worthOn 34 = .ok (.iconst 2, 1) := by decide +kernel
theorem dX7_worthOn_35 : decode cX7_worthOn 35 = .ok (.iadd, 1) := by decide +kernel
theorem dX7_worthOn_36 : decode cX7_worthOn 36 = .ok (.iaload, 1) := by decide +kernel
theorem dX7_worthOn_37 : decode cX7_worthOn 37 = .ok (.isub, 1) := by decide +kernel
theorem dX7_worthOn_38 : decode cX7_worthOn 38 = .ok (.bipush 10, 2) := by decide +kernel
theorem dX7_worthOn_40 : decode cX7_worthOn 40 = .ok (.idiv, 1) := by decide +kernel
theorem dX7_worthOn_41 : decode cX7_worthOn 41 = .ok (.istore 5, 2) := by decide +kernel
theorem dX7_worthOn_43 : decode cX7_worthOn 43 = .ok (.iconst 0, 1) := by decide +kernel
theorem dX7_worthOn_44 : decode cX7_worthOn 44 = .ok (.istore 6, 2) := by decide +kernel
theorem dX7_worthOn_46 : decode cX7_worthOn 46 = .ok (.iload 6, 2) := by decide +kernel
theorem dX7_worthOn_48 : decode cX7_worthOn 48 = .ok (.iload 5, 2) := by decide +kernel
theorem dX7_worthOn_50 : decode cX7_worthOn 50 = .ok (.if_icmp .ge 16, 3) := by decide +kernel
theorem dX7_worthOn_53 : decode cX7_worthOn 53 = .ok (.fload 4, 2) := by decide +kernel
theorem dX7_worthOn_55 : decode cX7_worthOn 55 = .ok (.ldc 57, 2) := by decide +kernel
theorem dX7_worthOn_57 : decode cX7_worthOn 57 = .ok (.fmul, 1) := by decide +kernel
theorem dX7_worthOn_58 : decode cX7_worthOn 58 = .ok (.fstore 4, 2) := by decide +kernel
theorem dX7_worthOn_60 : decode cX7_worthOn 60 = .ok (.iinc 6 1, 3) := by decide +kernel
theorem dX7_worthOn_63 : decode cX7_worthOn 63 = .ok (.goto (-17), 3) := by decide +kernel
theorem dX7_worthOn_66 : decode cX7_worthOn 66 = .ok (.fload 4, 2) := by decide +kernel
theorem dX7_worthOn_68 : decode cX7_worthOn 68 = .ok (.freturn, 1) := by decide +kernel
theorem dX7_isStaleOn_0 : decode cX7_isStaleOn 0 = .ok (.aload_n 0, 1) := by decide +kernel
theorem dX7_isStaleOn_1 : decode cX7_isStaleOn 1 = .ok (.iload_n 1, 1) := by decide +kernel
theorem dX7_isStaleOn_2 : decode cX7_isStaleOn 2 = .ok (.iload_n 2, 1) := by decide +kernel
theorem dX7_isStaleOn_3 : decode cX7_isStaleOn 3 = .ok (.iload_n 3, 1) := by decide +kernel
theorem dX7_isStaleOn_4 : decode cX7_isStaleOn 4 = .ok (.invokevirtual 58, 3) := by decide +kernel
theorem dX7_isStaleOn_7 : decode cX7_isStaleOn 7 = .ok (.aload_n 0, 1) := by decide +kernel
theorem dX7_isStaleOn_8 : decode cX7_isStaleOn 8 = .ok (.getfield 7, 3) := by decide +kernel
theorem dX7_isStaleOn_11 : decode cX7_isStaleOn 11 = .ok (.bipush 6, 2) := by decide +kernel
theorem dX7_isStaleOn_13 : decode cX7_isStaleOn 13 = .ok (.iaload, 1) := by decide +kernel
theorem dX7_isStaleOn_14 : decode cX7_isStaleOn 14 = .ok (.i2f, 1) := by decide +kernel
theorem dX7_isStaleOn_15 : decode cX7_isStaleOn 15 = .ok (.ldc 56, 2) := by decide +kernel
theorem dX7_isStaleOn_17 : decode cX7_isStaleOn 17 = .ok (.fdiv, 1) := by decide +kernel
theorem dX7_isStaleOn_18 : decode cX7_isStaleOn 18 = .ok (.fcmp .g, 1) := by decide +kernel
theorem dX7_isStaleOn_19 : decode cX7_isStaleOn 19 = .ok (.ifCond .ge 7, 3) := by decide +kernel
theorem dX7_isStaleOn_22 : decode cX7_isStaleOn 22 = .ok (.iconst 1, 1) := by decide +kernel
theorem dX7_isStaleOn_23 : decode cX7_isStaleOn 23 = .ok (.goto 4, 3) := by decide +kernel
theorem dX7_isStaleOn_26 : decode cX7_isStaleOn 26 = .ok (.iconst 0, 1) := by decide +kernel
theorem dX7_isStaleOn_27 : decode cX7_isStaleOn 27 = .ok (.ireturn, 1) := by decide +kernel
theorem dX7_stale_0 : decode cX7_stale 0 = .ok (.iconst 0, 1) := by decide +kernel
theorem dX7_stale_1 : decode cX7_stale 1 = .ok (.istore_n 3, 1) := by decide +kernel
theorem dX7_stale_2 : decode cX7_stale 2 = .ok (.iconst 0, 1) := by decide +kernel
theorem dX7_stale_3 : decode cX7_stale 3 = .ok (.istore 4, 2) := by decide +kernel
theorem dX7_stale_5 : decode cX7_stale 5 = .ok (.iload 4, 2) := by decide +kernel
theorem dX7_stale_7 : decode cX7_stale 7 = .ok (.aload_n 0, 1) := by decide +kernel
theorem dX7_stale_8 : decode cX7_stale 8 = .ok (.iload_n 1, 1) := by decide +kernel
theorem dX7_stale_9 : decode cX7_stale 9 = .ok (.iconst 3, 1) := by decide +kernel
theorem dX7_stale_10 : decode cX7_stale 10 = .ok (.invokevirtual 49, 3) := by decide +kernel
theorem dX7_stale_13 : decode cX7_stale 13 = .ok (.if_icmp .ge 28, 3) := by decide +kernel
theorem dX7_stale_16 : decode cX7_stale 16 = .ok (.iload_n 3, 1) := by decide +kernel
theorem dX7_stale_17 : decode cX7_stale 17 = .ok (.aload_n 0, 1) := by decide +kernel
theorem dX7_stale_18 : decode cX7_stale 18 = .ok (.iload_n 1, 1) := by decide +kernel
theorem dX7_stale_19 : decode cX7_stale 19 = .ok (.iload 4, 2) := by decide +kernel
theorem dX7_stale_21 : decode cX7_stale 21 = .ok (.iload_n 2, 1) := by decide +kernel
theorem dX7_stale_22 : decode cX7_stale 22 = .ok (.invokevirtual 62, 3) := by decide +kernel
theorem dX7_stale_25 : decode cX7_stale 25 = .ok (.ifCond .eq 7, 3) := by decide +kernel
theorem dX7_stale_28 : decode cX7_stale 28 = .ok (.iconst 1, 1) := by decide +kernel
theorem dX7_stale_29 : decode cX7_stale 29 = .ok (.goto 4, 3) := by decide +kernel
theorem dX7_stale_32 : decode cX7_stale 32 = .ok (.iconst 0, 1) := by decide +kernel
theorem dX7_stale_33 : decode cX7_stale 33 = .ok (.iadd, 1) := by decide +kernel
theorem dX7_stale_34 : decode cX7_stale 34 = .ok (.istore_n 3, 1) := by decide +kernel
theorem dX7_stale_35 : decode cX7_stale 35 = .ok (.iinc 4 1, 3) := by decide +kernel
theorem dX7_stale_38 : decode cX7_stale 38 = .ok (.goto (-33), 3) := by decide +kernel
theorem dX7_stale_41 : decode cX7_stale 41 = .ok (.iload_n 3, 1) := by decide +kernel
theorem dX7_stale_42 : decode cX7_stale 42 = .ok (.ireturn, 1) := by decide +kernel
theorem dX7_lines_0 : decode cX7_lines 0 = .ok (.iconst 0, 1) := by decide +kernel
theorem dX7_lines_1 : decode cX7_lines 1 = .ok (.istore_n 2, 1) := by decide +kernel
theorem dX7_lines_2 : decode cX7_lines 2 = .ok (.iconst 0, 1) := by decide +kernel
theorem dX7_lines_3 : decode cX7_lines 3 = .ok (.istore_n 3, 1) := by decide +kernel
theorem dX7_lines_4 : decode cX7_lines 4 = .ok (.iload_n 3, 1) := by decide +kernel
theorem dX7_lines_5 : decode cX7_lines 5 = .ok (.aload_n 0, 1) := by decide +kernel
theorem dX7_lines_6 : decode cX7_lines 6 = .ok (.iload_n 1, 1) := by decide +kernel
theorem dX7_lines_7 : decode cX7_lines 7 = .ok (.iconst 3, 1) := by decide +kernel
theorem dX7_lines_8 : decode cX7_lines 8 = .ok (.invokevirtual 49, 3) := by decide +kernel
theorem dX7_lines_11 : decode cX7_lines 11 = .ok (.if_icmp .ge 24, 3) := by decide +kernel
theorem dX7_lines_14 : decode cX7_lines 14 = .ok (.iload_n 2, 1) := by decide +kernel
theorem dX7_lines_15 : decode cX7_lines 15 = .ok (.aload_n 0, 1) := by decide +kernel
theorem dX7_lines_16 : decode cX7_lines 16 = .ok (.getfield 7, 3) := by decide +kernel
theorem dX7_lines_19 : decode cX7_lines 19 = .ok (.iload_n 1, 1) := by decide +kernel
theorem dX7_lines_20 : decode cX7_lines 20 = .ok (.iload_n 3, 1) := by decide +kernel
theorem dX7_lines_21 : decode cX7_lines 21 = .ok (.invokestatic 53, 3) := by decide +kernel
theorem dX7_lines_24 : decode cX7_lines 24 = .ok (.iconst 1, 1) := by decide +kernel
theorem dX7_lines_25 : decode cX7_lines 25 = .ok (.iadd, 1) := by decide +kernel
theorem dX7_lines_26 : decode cX7_lines 26 = .ok (.iaload, 1) := by decide +kernel
theorem dX7_lines_27 : decode cX7_lines 27 = .ok (.iadd, 1) := by decide +kernel
theorem dX7_lines_28 : decode cX7_lines 28 = .ok (.istore_n 2, 1) := by decide +kernel
theorem dX7_lines_29 : decode cX7_lines 29 = .ok (.iinc 3 1, 3) := by decide +kernel
theorem dX7_lines_32 : decode cX7_lines 32 = .ok (.goto (-28), 3) := by decide +kernel
theorem dX7_lines_35 : decode cX7_lines 35 = .ok (.iload_n 2, 1) := by decide +kernel
theorem dX7_lines_36 : decode cX7_lines 36 = .ok (.ireturn, 1) := by decide +kernel
theorem dX7_sources_0 : decode cX7_sources 0 = .ok (.iconst 0, 1) := by decide +kernel
theorem dX7_sources_1 : decode cX7_sources 1 = .ok (.istore_n 2, 1) := by decide +kernel
theorem dX7_sources_2 : decode cX7_sources 2 = .ok (.iconst 0, 1) := by decide +kernel
theorem dX7_sources_3 : decode cX7_sources 3 = .ok (.istore_n 3, 1) := by decide +kernel
theorem dX7_sources_4 : decode cX7_sources 4 = .ok (.iload_n 3, 1) := by decide +kernel
theorem dX7_sources_5 : decode cX7_sources 5 = .ok (.aload_n 0, 1) := by decide +kernel
theorem dX7_sources_6 : decode cX7_sources 6 = .ok (.iload_n 1, 1) := by decide +kernel
theorem dX7_sources_7 : decode cX7_sources 7 = .ok (.iconst 3, 1) := by decide +kernel
theorem dX7_sources_8 : decode cX7_sources 8 = .ok (.invokevirtual 49, 3) := by decide +kernel
theorem dX7_sources_11 : decode cX7_sources 11 = .ok (.if_icmp .ge 24, 3) := by decide +kernel
theorem dX7_sources_14 : decode cX7_sources 14 = .ok (.iload_n 2, 1) := by decide +kernel
theorem dX7_sources_15 : decode cX7_sources 15 = .ok (.iconst 1, 1) := by decide +kernel
theorem dX7_sources_16 : decode cX7_sources 16 = .ok (.aload_n 0, 1) := by decide +kernel
theorem dX7_sources_17 : decode cX7_sources 17 = .ok (.getfield 7, 3) := by decide +kernel
theorem dX7_sources_20 : decode cX7_sources 20 = .ok (.iload_n 1, 1) := by decide +kernel
theorem dX7_sources_21 : decode cX7_sources 21 = .ok (.iload_n 3, 1) := by decide +kernel
theorem dX7_sources_22 : decode cX7_sources 22 = .ok (.invokestatic 53, 3) := by decide +kernel
theorem dX7_sources_25 : decode cX7_sources 25 = .ok (.iaload, 1) := by decide +kernel
theorem dX7_sources_26 : decode cX7_sources 26 = .ok (.ishl, 1) := by decide +kernel
theorem dX7_sources_27 : decode cX7_sources 27 = .ok (.ior, 1) := by decide +kernel
theorem dX7_sources_28 : decode cX7_sources 28 = .ok (.istore_n 2, 1) := by decide +kernel
theorem dX7_sources_29 : decode cX7_sources 29 = .ok (.iinc 3 1, 3) := by decide +kernel
theorem dX7_sources_32 : decode cX7_sources 32 = .ok (.goto (-28), 3) := by decide +kernel
theorem dX7_sources_35 : decode cX7_sources 35 = .ok (.iconst 0, 1) := by decide +kernel
theorem dX7_sources_36 : decode cX7_sources 36 = .ok (.istore_n 3, 1) := by decide +kernel
theorem dX7_sources_37 : decode cX7_sources 37 = .ok (.iconst 0, 1) := by decide +kernel
theorem dX7_sources_38 : decode cX7_sources 38 = .ok (.istore 4, 2) := by decide +kernel
theorem dX7_sources_40 : decode cX7_sources 40 = .ok (.iload 4, 2) := by decide +kernel
theorem dX7_sources_42 : decode cX7_sources 42 = .ok (.bipush 6, 2) := by decide +kernel
theorem dX7_sources_44 : decode cX7_sources 44 = .ok (.if_icmp .ge 18, 3) := by decide +kernel
theorem dX7_sources_47 : decode cX7_sources 47 = .ok (.iload_n 3, 1) := by decide +kernel
theorem dX7_sources_48 : decode cX7_sources 48 = .ok (.iload_n 2, 1) := by decide +kernel
theorem dX7_sources_49 : decode cX7_sources 49 = .ok (.iload 4, 2) := by decide +kernel
theorem dX7_sources_51 : decode cX7_sources 51 = .ok (.ishr, 1) := by decide +kernel
theorem dX7_sources_52 : decode cX7_sources 52 = .ok (.iconst 1, 1) := by decide +kernel
theorem dX7_sources_53 : decode cX7_sources 53 = .ok (.iand, 1) := by decide +kernel
theorem dX7_sources_54 : decode cX7_sources 54 = .ok (.iadd, 1) := by decide +kernel
theorem dX7_sources_55 : decode cX7_sources 55 = .ok (.istore_n 3, 1) := by decide +kernel
theorem dX7_sources_56 : decode cX7_sources 56 = .ok (.iinc 4 1, 3) := by decide +kernel
theorem dX7_sources_59 : decode cX7_sources 59 = .ok (.goto (-19), 3) := by decide +kernel
theorem dX7_sources_62 : decode cX7_sources 62 = .ok (.iload_n 3, 1) := by decide +kernel
theorem dX7_sources_63 : decode cX7_sources 63 = .ok (.ireturn, 1) := by decide +kernel
theorem dX7_isReady_0 : decode cX7_isReady 0 = .ok (.aload_n 0, 1) := by decide +kernel
theorem dX7_isReady_1 : decode cX7_isReady 1 = .ok (.iload_n 1, 1) := by decide +kernel
theorem dX7_isReady_2 : decode cX7_isReady 2 = .ok (.invokevirtual 65, 3) := by decide +kernel
theorem dX7_isReady_5 : decode cX7_isReady 5 = .ok (.aload_n 0, 1) := by decide +kernel
theorem dX7_isReady_6 : decode cX7_isReady 6 = .ok (.getfield 7, 3) := by decide +kernel
theorem dX7_isReady_9 : decode cX7_isReady 9 = .ok (.bipush 7, 2) := by decide +kernel
theorem dX7_isReady_11 : decode cX7_isReady 11 = .ok (.iaload, 1) := by decide +kernel
theorem dX7_isReady_12 : decode cX7_isReady 12 = .ok (.if_icmp .lt 21, 3) := by decide +kernel
theorem dX7_isReady_15 : decode cX7_isReady 15 = .ok (.aload_n 0, 1) := by decide +kernel
theorem dX7_isReady_16 : decode cX7_isReady 16 = .ok (.iload_n 1, 1) := by decide +kernel
theorem dX7_isReady_17 : decode cX7_isReady 17 = .ok (.aload_n 0, 1) := by decide +kernel
theorem dX7_isReady_18 : decode cX7_isReady 18 = .ok (.getfield 7, 3) := by decide +kernel
theorem dX7_isReady_21 : decode cX7_isReady 21 = .ok (.iconst 0, 1) := by decide +kernel
theorem dX7_isReady_22 : decode cX7_isReady 22 = .ok (.iaload, 1) := by decide +kernel
theorem dX7_isReady_23 : decode cX7_isReady 23 = .ok (.invokevirtual 68, 3) := by decide +kernel
theorem dX7_isReady_26 : decode cX7_isReady 26 = .ok (.ifCond .ne 7, 3) := by decide +kernel
theorem dX7_isReady_29 : decode cX7_isReady 29 = .ok (.iconst 1, 1) := by decide +kernel
theorem dX7_isReady_30 : decode cX7_isReady 30 = .ok (.goto 4, 3) := by decide +kernel
theorem dX7_isReady_33 : decode cX7_isReady 33 = .ok (.iconst 0, 1) := by decide +kernel
theorem dX7_isReady_34 : decode cX7_isReady 34 = .ok (.ireturn, 1) := by decide +kernel
theorem dX7_urgency_0 : decode cX7_urgency 0 = .ok (.aload_n 0, 1) := by decide +kernel
theorem dX7_urgency_1 : decode cX7_urgency 1 = .ok (.iload_n 1, 1) := by decide +kernel
theorem dX7_urgency_2 : decode cX7_urgency 2 = .ok (.iconst 0, 1) := by decide +kernel
theorem dX7_urgency_3 : decode cX7_urgency 3 = .ok (.invokevirtual 49, 3) := by decide +kernel
theorem dX7_urgency_6 : decode cX7_urgency 6 = .ok (.bipush 10, 2) := by decide +kernel
theorem dX7_urgency_8 : decode cX7_urgency 8 = .ok (.aload_n 0, 1) := by decide +kernel
theorem dX7_urgency_9 : decode cX7_urgency 9 = .ok (.iload_n 1, 1) := by decide +kernel
theorem dX7_urgency_10 : decode cX7_urgency 10 = .ok (.iconst 1, 1) := by decide +kernel
theorem dX7_urgency_11 : decode cX7_urgency 11 = .ok (.invokevirtual 49, 3) := by decide +kernel
theorem dX7_urgency_14 : decode cX7_urgency 14 = .ok (.imul, 1) := by decide +kernel
theorem dX7_urgency_15 : decode cX7_urgency 15 = .ok (.iadd, 1) := by decide +kernel
theorem dX7_urgency_16 : decode cX7_urgency 16 = .ok (.iconst 5, 1) := by decide +kernel
theorem dX7_urgency_17 : decode cX7_urgency 17 = .ok (.aload_n 0, 1) := by decide +kernel
theorem dX7_urgency_18 : decode cX7_urgency 18 = .ok (.iload_n 1, 1) := by decide +kernel
theorem dX7_urgency_19 : decode cX7_urgency 19 = .ok (.aload_n 0, 1) := by decide +kernel
theorem dX7_urgency_20 : decode cX7_urgency 20 = .ok (.getfield 7, 3) := by decide +kernel
theorem dX7_urgency_23 : decode cX7_urgency 23 = .ok (.iconst 0, 1) := by decide +kernel
theorem dX7_urgency_24 : decode cX7_urgency 24 = .ok (.iaload, 1) := by decide +kernel
theorem dX7_urgency_25 : decode cX7_urgency 25 = .ok (.invokevirtual 68, 3) := by decide +kernel
theorem dX7_urgency_28 : decode cX7_urgency 28 = .ok (.imul, 1) := by decide +kernel
theorem dX7_urgency_29 : decode cX7_urgency 29 = .ok (.iadd, 1) := by decide +kernel
theorem dX7_urgency_30 : decode cX7_urgency 30 = .ok (.aload_n 0, 1) := by decide +kernel
theorem dX7_urgency_31 : decode cX7_urgency 31 = .ok (.iload_n 1, 1) := by decide +kernel
theorem dX7_urgency_32 : decode cX7_urgency 32 = .ok (.iconst 3, 1) := by decide +kernel
theorem dX7_urgency_33 : decode cX7_urgency 33 = .ok (.invokevirtual 49, 3) := by decide +kernel
theorem dX7_urgency_36 : decode cX7_urgency 36 = .ok (.ifCond .ne 8, 3) := by decide +kernel
theorem dX7_urgency_39 : decode cX7_urgency 39 = .ok (.bipush 40, 2) := by decide +kernel
theorem dX7_urgency_41 : decode cX7_urgency 41 = .ok (.goto 4, 3) := by decide +kernel
theorem dX7_urgency_44 : decode cX7_urgency 44 = .ok (.iconst 0, 1) := by decide +kernel
theorem dX7_urgency_45 : decode cX7_urgency 45 = .ok (.iadd, 1) := by decide +kernel
theorem dX7_urgency_46 : decode cX7_urgency 46 = .ok (.ireturn, 1) := by decide +kernel
theorem dX7_come_0 : decode cX7_come 0 = .ok (.aload_n 0, 1) := by decide +kernel
theorem dX7_come_1 : decode cX7_come 1 = .ok (.getfield 7, 3) := by decide +kernel
theorem dX7_come_4 : decode cX7_come 4 = .ok (.iconst 1, 1) := by decide +kernel
theorem dX7_come_5 : decode cX7_come 5 = .ok (.iaload, 1) := by decide +kernel
theorem dX7_come_6 : decode cX7_come 6 = .ok (.invokestatic 37, 3) := by decide +kernel
theorem dX7_come_9 : decode cX7_come 9 = .ok (.istore_n 3, 1) := by decide +kernel
theorem dX7_come_10 : decode cX7_come 10 = .ok (.aload_n 0, 1) := by decide +kernel
theorem dX7_come_11 : decode cX7_come 11 = .ok (.getfield 7, 3) := by decide +kernel
theorem dX7_come_14 : decode cX7_come 14 = .ok (.iload_n 3, 1) := by decide +kernel
theorem dX7_come_15 : decode cX7_come 15 = .ok (.iconst 0, 1) := by decide +kernel
theorem dX7_come_16 : decode cX7_come 16 = .ok (.iadd, 1) := by decide +kernel
theorem dX7_come_17 : decode cX7_come 17 = .ok (.iload_n 1, 1) := by decide +kernel
theorem dX7_come_18 : decode cX7_come 18 = .ok (.iastore, 1) := by decide +kernel
theorem dX7_come_19 : decode cX7_come 19 = .ok (.aload_n 0, 1) := by decide +kernel
theorem dX7_come_20 : decode cX7_come 20 = .ok (.getfield 7, 3) := by decide +kernel
theorem dX7_come_23 : decode cX7_come 23 = .ok (.iload_n 3, 1) := by decide +kernel
theorem dX7_come_24 : decode cX7_come 24 = .ok (.iconst 1, 1) := by decide +kernel
theorem dX7_come_25 : decode cX7_come 25 = .ok (.iadd, 1) := by decide +kernel
theorem dX7_come_26 : decode cX7_come 26 = .ok (.iload_n 2, 1) := by decide +kernel
theorem dX7_come_27 : decode cX7_come 27 = .ok (.iastore, 1) := by decide +kernel
theorem dX7_come_28 : decode cX7_come 28 = .ok (.aload_n 0, 1) := by decide +kernel
theorem dX7_come_29 : decode cX7_come 29 = .ok (.getfield 7, 3) := by decide +kernel
theorem dX7_come_32 : decode cX7_come 32 = .ok (.iload_n 3, 1) := by decide +kernel
theorem dX7_come_33 : decode cX7_come 33 = .ok (.bipush 6, 2) := by decide +kernel
theorem dX7_come_35 : decode cX7_come 35 = .ok (.iadd, 1) := by decide +kernel
theorem dX7_come_36 : decode cX7_come 36 = .ok (.bipush (-5), 2) := by decide +kernel
theorem dX7_come_38 : decode cX7_come 38 = .ok (.iastore, 1) := by decide +kernel
theorem dX7_come_39 : decode cX7_come 39 = .ok (.aload_n 0, 1) := by decide +kernel
theorem dX7_come_40 : decode cX7_come 40 = .ok (.getfield 7, 3) := by decide +kernel
theorem dX7_come_43 : decode cX7_come 43 = .ok (.iconst 1, 1) := by decide +kernel
theorem dX7_come_44 : decode cX7_come 44 = .ok (.dup2, 1) := by decide +kernel
theorem dX7_come_45 : decode cX7_come 45 = .ok (.iaload, 1) := by decide +kernel
theorem dX7_come_46 : decode cX7_come 46 = .ok (.iconst 1, 1) := by decide +kernel
theorem dX7_come_47 : decode cX7_come 47 = .ok (.iadd, 1) := by decide +kernel
theorem dX7_come_48 : decode cX7_come 48 = .ok (.iastore, 1) := by decide +kernel
theorem dX7_come_49 : decode cX7_come 49 = .ok (.aload_n 0, 1) := by decide +kernel
theorem dX7_come_50 : decode cX7_come 50 = .ok (.getfield 7, 3) := by decide +kernel
theorem dX7_come_53 : decode cX7_come 53 = .ok (.iconst 1, 1) := by decide +kernel
theorem dX7_come_54 : decode cX7_come 54 = .ok (.iaload, 1) := by decide +kernel
theorem dX7_come_55 : decode cX7_come 55 = .ok (.iconst 1, 1) := by decide +kernel
theorem dX7_come_56 : decode cX7_come 56 = .ok (.isub, 1) := by decide +kernel
theorem dX7_come_57 : decode cX7_come 57 = .ok (.ireturn, 1) := by decide +kernel
theorem dX7_add_0 : decode cX7_add 0 = .ok (.iload_n 1, 1) := by decide +kernel
theorem dX7_add_1 : decode cX7_add 1 = .ok (.aload_n 0, 1) := by decide +kernel
theorem dX7_add_2 : decode cX7_add 2 = .ok (.iload_n 1, 1) := by decide +kernel
theorem dX7_add_3 : decode cX7_add 3 = .ok (.iconst 3, 1) := by decide +kernel
theorem dX7_add_4 : decode cX7_add 4 = .ok (.invokevirtual 49, 3) := by decide +kernel
theorem dX7_add_7 : decode cX7_add 7 = .ok (.invokestatic 53, 3) := by decide +kernel
theorem dX7_add_10 : decode cX7_add 10 = .ok (.istore 4, 2) := by decide +kernel
theorem dX7_add_12 : decode cX7_add 12 = .ok (.aload_n 0, 1) := by decide +kernel
theorem dX7_add_13 : decode cX7_add 13 = .ok (.getfield 7, 3) := by decide +kernel
theorem dX7_add_16 : decode cX7_add 16 = .ok (.iload 4, 2) := by decide +kernel
theorem dX7_add_18 : decode cX7_add 18 = .ok (.iload_n 2, 1) := by decide +kernel
theorem dX7_add_19 : decode cX7_add 19 = .ok (.iastore, 1) := by decide +kernel
theorem dX7_add_20 : decode cX7_add 20 = .ok (.aload_n 0, 1) := by decide +kernel
theorem dX7_add_21 : decode cX7_add 21 = .ok (.getfield 7, 3) := by decide +kernel
theorem dX7_add_24 : decode cX7_add 24 = .ok (.iload 4, 2) := by decide +kernel
theorem dX7_add_26 : decode cX7_add 26 = .ok (.iconst 1, 1) := by decide +kernel
theorem dX7_add_27 : decode cX7_add 27 = .ok (.iadd, 1) := by decide +kernel
theorem dX7_add_28 : decode cX7_add 28 = .ok (.iload_n 3, 1) := by decide +kernel
theorem dX7_add_29 : decode cX7_add 29 = .ok (.iastore, 1) := by decide +kernel
theorem dX7_add_30 : decode cX7_add 30 = .ok (.aload_n 0, 1) := by decide +kernel
theorem dX7_add_31 : decode cX7_add 31 = .ok (.getfield 7, 3) := by decide +kernel
theorem dX7_add_34 : decode cX7_add 34 = .ok (.iload 4, 2) := by decide +kernel
theorem dX7_add_36 : decode cX7_add 36 = .ok (.iconst 2, 1) := by decide +kernel
theorem dX7_add_37 : decode cX7_add 37 = .ok (.iadd, 1) := by decide +kernel
theorem dX7_add_38 : decode cX7_add 38 = .ok (.aload_n 0, 1) := by decide +kernel
theorem dX7_add_39 : decode cX7_add 39 = .ok (.getfield 7, 3) := by decide +kernel
theorem dX7_add_42 : decode cX7_add 42 = .ok (.iconst 0, 1) := by decide +kernel
theorem dX7_add_43 : decode cX7_add 43 = .ok (.iaload, 1) := by decide +kernel
theorem dX7_add_44 : decode cX7_add 44 = .ok (.iastore, 1) := by decide +kernel
theorem dX7_add_45 : decode cX7_add 45 = .ok (.aload_n 0, 1) := by decide +kernel
theorem dX7_add_46 : decode cX7_add 46 = .ok (.getfield 7, 3) := by decide +kernel
theorem dX7_add_49 : decode cX7_add 49 = .ok (.iload_n 1, 1) := by decide +kernel
theorem dX7_add_50 : decode cX7_add 50 = .ok (.invokestatic 37, 3) := by decide +kernel
theorem dX7_add_53 : decode cX7_add 53 = .ok (.iconst 3, 1) := by decide +kernel
theorem dX7_add_54 : decode cX7_add 54 = .ok (.iadd, 1) := by decide +kernel
theorem dX7_add_55 : decode cX7_add 55 = .ok (.dup2, 1) := by decide +kernel
theorem dX7_add_56 : decode cX7_add 56 = .ok (.iaload, 1) := by decide +kernel
theorem dX7_add_57 : decode cX7_add 57 = .ok (.iconst 1, 1) := by decide +kernel
theorem dX7_add_58 : decode cX7_add 58 = .ok (.iadd, 1) := by decide +kernel
theorem dX7_add_59 : decode cX7_add 59 = .ok (.iastore, 1) := by decide +kernel
theorem dX7_add_60 : decode cX7_add 60 = .ok (.return_, 1) := by decide +kernel
theorem dX7_addPerson_0 : decode cX7_addPerson 0 = .ok (.iload_n 1, 1) := by decide +kernel
theorem dX7_addPerson_1 : decode cX7_addPerson 1 = .ok (.iconst 0, 1) := by decide +kernel
theorem dX7_addPerson_2 : decode cX7_addPerson 2 = .ok (.bipush 110, 2) := by decide +kernel
theorem dX7_addPerson_4 : decode cX7_addPerson 4 = .ok (.invokestatic 41, 3) := by decide +kernel
theorem dX7_addPerson_7 : decode cX7_addPerson 7 = .ok (.ifCond .eq 13, 3) := by decide +kernel
theorem dX7_addPerson_10 : decode cX7_addPerson 10 = .ok (.iload_n 2, 1) := by decide +kernel
theorem dX7_addPerson_11 : decode cX7_addPerson 11 = .ok (.iconst 1, 1) := by decide +kernel
theorem dX7_addPerson_12 : decode cX7_addPerson 12 = .ok (.bipush 9, 2) := by decide +kernel
theorem dX7_addPerson_14 : decode cX7_addPerson 14 = .ok (.invokestatic 41, 3) := by decide +kernel
theorem dX7_addPerson_17 : decode cX7_addPerson 17 = .ok (.ifCond .ne 6, 3) := by decide +kernel
theorem dX7_addPerson_20 : decode cX7_addPerson 20 = .ok (.bipush (-2), 2) := by decide +kernel
theorem dX7_addPerson_22 : decode cX7_addPerson 22 = .ok (.ireturn, 1) := by decide +kernel
theorem dX7_addPerson_23 : decode cX7_addPerson 23 = .ok (.aload_n 0, 1) := by decide +kernel
theorem dX7_addPerson_24 : decode cX7_addPerson 24 = .ok (.getfield 7, 3) := by decide +kernel
theorem dX7_addPerson_27 : decode cX7_addPerson 27 = .ok (.iconst 1, 1) := by decide +kernel
theorem dX7_addPerson_28 : decode cX7_addPerson 28 = .ok (.iaload, 1) := by decide +kernel
theorem dX7_addPerson_29 : decode cX7_addPerson 29 = .ok (.bipush 20, 2) := by decide +kernel
theorem dX7_addPerson_31 : decode cX7_addPerson 31 = .ok (.if_icmp .ne 6, 3) := by decide +kernel
theorem dX7_addPerson_34 : decode cX7_addPerson 34 = .ok (.bipush (-3), 2) := by decide +kernel
theorem dX7_addPerson_36 : decode cX7_addPerson 36 = .ok (.ireturn, 1) := by decide +kernel
theorem dX7_addPerson_37 : decode cX7_addPerson 37 = .ok (.aload_n 0, 1) := by decide +kernel
theorem dX7_addPerson_38 : decode cX7_addPerson 38 = .ok (.invokevirtual 71, 3) := by decide +kernel
theorem dX7_addPerson_41 : decode cX7_addPerson 41 = .ok (.aload_n 0, 1) := by decide +kernel
theorem dX7_addPerson_42 : decode cX7_addPerson 42 = .ok (.iload_n 1, 1) := by decide +kernel
theorem dX7_addPerson_43 : decode cX7_addPerson 43 = .ok (.iload_n 2, 1) := by decide +kernel
theorem dX7_addPerson_44 : decode cX7_addPerson 44 = .ok (.invokevirtual 74, 3) := by decide +kernel
theorem dX7_addPerson_47 : decode cX7_addPerson 47 = .ok (.ireturn, 1) := by decide +kernel
theorem dX7_isSign_0 : decode cX7_isSign 0 = .ok (.iload_n 1, 1) := by decide +kernel
theorem dX7_isSign_1 : decode cX7_isSign 1 = .ok (.aload_n 0, 1) := by decide +kernel
theorem dX7_isSign_2 : decode cX7_isSign 2 = .ok (.getfield 77, 3) := by decide +kernel
theorem dX7_isSign_5 : decode cX7_isSign 5 = .ok (.if_icmp .ge 27, 3) := by decide +kernel
theorem dX7_isSign_8 : decode cX7_isSign 8 = .ok (.aload_n 0, 1) := by decide +kernel
theorem dX7_isSign_9 : decode cX7_isSign 9 = .ok (.getfield 26, 3) := by decide +kernel
theorem dX7_isSign_12 : decode cX7_isSign 12 = .ok (.iload_n 1, 1) := by decide +kernel
theorem dX7_isSign_13 : decode cX7_isSign 13 = .ok (.caload, 1) := by decide +kernel
theorem dX7_isSign_14 : decode cX7_isSign 14 = .ok (.iload_n 2, 1) := by decide +kernel
theorem dX7_isSign_15 : decode cX7_isSign 15 = .ok (.if_icmp .lt 17, 3) := by decide +kernel
theorem dX7_isSign_18 : decode cX7_isSign 18 = .ok (.aload_n 0, 1) := by decide +kernel
theorem dX7_isSign_19 : decode cX7_isSign 19 = .ok (.getfield 26, 3) := by decide +kernel
theorem dX7_isSign_22 : decode cX7_isSign 22 = .ok (.iload_n 1, 1) := by decide +kernel
theorem dX7_isSign_23 : decode cX7_isSign 23 = .ok (.caload, 1) := by decide +kernel
theorem dX7_isSign_24 : decode cX7_isSign 24 = .ok (.iload_n 3, 1) := by decide +kernel
theorem dX7_isSign_25 : decode cX7_isSign 25 = .ok (.if_icmp .gt 7, 3) := by decide +kernel
theorem dX7_isSign_28 : decode cX7_isSign 28 = .ok (.iconst 1, 1) := by decide +kernel
theorem dX7_isSign_29 : decode cX7_isSign 29 = .ok (.goto 4, 3) := by decide +kernel
theorem dX7_isSign_32 : decode cX7_isSign 32 = .ok (.iconst 0, 1) := by decide +kernel
theorem dX7_isSign_33 : decode cX7_isSign 33 = .ok (.ireturn, 1) := by decide +kernel
theorem dX7_accepts_0 : decode cX7_accepts 0 = .ok (.aload_n 0, 1) := by decide +kernel
theorem dX7_accepts_1 : decode cX7_accepts 1 = .ok (.aload_n 0, 1) := by decide +kernel
theorem dX7_accepts_2 : decode cX7_accepts 2 = .ok (.getfield 80, 3) := by decide +kernel
theorem dX7_accepts_5 : decode cX7_accepts 5 = .ok (.iload_n 1, 1) := by decide +kernel
theorem dX7_accepts_6 : decode cX7_accepts 6 = .ok (.iload_n 1, 1) := by decide +kernel
theorem dX7_accepts_7 : decode cX7_accepts 7 = .ok (.invokevirtual 83, 3) := by decide +kernel
theorem dX7_accepts_10 : decode cX7_accepts 10 = .ok (.istore_n 2, 1) := by decide +kernel
theorem dX7_accepts_11 : decode cX7_accepts 11 = .ok (.aload_n 0, 1) := by decide +kernel
theorem dX7_accepts_12 : decode cX7_accepts 12 = .ok (.dup, 1) := by decide +kernel
theorem dX7_accepts_13 : decode cX7_accepts 13 = .ok (.getfield 80, 3) := by decide +kernel
theorem dX7_accepts_16 : decode cX7_accepts 16 = .ok (.iload_n 2, 1) := by decide +kernel
theorem dX7_accepts_17 : decode cX7_accepts 17 = .ok (.ifCond .eq 7, 3) := by decide +kernel
theorem dX7_accepts_20 : decode cX7_accepts 20 = .ok (.iconst 1, 1) := by decide +kernel
theorem dX7_accepts_21 : decode cX7_accepts 21 = .ok (.goto 4, 3) := by decide +kernel
theorem dX7_accepts_24 : decode cX7_accepts 24 = .ok (.iconst 0, 1) := by decide +kernel
theorem dX7_accepts_25 : decode cX7_accepts 25 = .ok (.iadd, 1) := by decide +kernel
theorem dX7_accepts_26 : decode cX7_accepts 26 = .ok (.putfield 80, 3) := by decide +kernel
theorem dX7_accepts_29 : decode cX7_accepts 29 = .ok (.iload_n 2, 1) := by decide +kernel
theorem dX7_accepts_30 : decode cX7_accepts 30 = .ok (.ireturn, 1) := by decide +kernel
theorem dX7_digit_0 : decode cX7_digit 0 = .ok (.aload_n 0, 1) := by decide +kernel
theorem dX7_digit_1 : decode cX7_digit 1 = .ok (.aload_n 0, 1) := by decide +kernel
theorem dX7_digit_2 : decode cX7_digit 2 = .ok (.getfield 80, 3) := by decide +kernel
theorem dX7_digit_5 : decode cX7_digit 5 = .ok (.iload_n 1, 1) := by decide +kernel
theorem dX7_digit_6 : decode cX7_digit 6 = .ok (.iload_n 2, 1) := by decide +kernel
theorem dX7_digit_7 : decode cX7_digit 7 = .ok (.invokevirtual 83, 3) := by decide +kernel
theorem dX7_digit_10 : decode cX7_digit 10 = .ok (.ifCond .ne 5, 3) := by decide +kernel
theorem dX7_digit_13 : decode cX7_digit 13 = .ok (.iconst (-1), 1) := by decide +kernel
theorem dX7_digit_14 : decode cX7_digit 14 = .ok (.ireturn, 1) := by decide +kernel
theorem dX7_digit_15 : decode cX7_digit 15 = .ok (.aload_n 0, 1) := by decide +kernel
theorem dX7_digit_16 : decode cX7_digit 16 = .ok (.dup, 1) := by decide +kernel
theorem dX7_digit_17 : decode cX7_digit 17 = .ok (.getfield 80, 3) := by decide +kernel
theorem dX7_digit_20 : decode cX7_digit 20 = .ok (.iconst 1, 1) := by decide +kernel
theorem dX7_digit_21 : decode cX7_digit 21 = .ok (.iadd, 1) := by decide +kernel
theorem dX7_digit_22 : decode cX7_digit 22 = .ok (.putfield 80, 3) := by decide +kernel
theorem dX7_digit_25 : decode cX7_digit 25 = .ok (.aload_n 0, 1) := by decide +kernel
theorem dX7_digit_26 : decode cX7_digit 26 = .ok (.getfield 26, 3) := by decide +kernel
theorem dX7_digit_29 : decode cX7_digit 29 = .ok (.aload_n 0, 1) := by decide +kernel
theorem dX7_digit_30 : decode cX7_digit 30 = .ok (.getfield 80, 3) := by decide +kernel
theorem dX7_digit_33 : decode cX7_digit 33 = .ok (.iconst 1, 1) := by decide +kernel
theorem dX7_digit_34 : decode cX7_digit 34 = .ok (.isub, 1) := by decide +kernel
theorem dX7_digit_35 : decode cX7_digit 35 = .ok (.caload, 1) := by decide +kernel
theorem dX7_digit_36 : decode cX7_digit 36 = .ok (.bipush 48, 2) := by decide +kernel
theorem dX7_digit_38 : decode cX7_digit 38 = .ok (.isub, 1) := by decide +kernel
theorem dX7_digit_39 : decode cX7_digit 39 = .ok (.ireturn, 1) := by decide +kernel
theorem dX7_age_0 : decode cX7_age 0 = .ok (.aload_n 0, 1) := by decide +kernel
theorem dX7_age_1 : decode cX7_age 1 = .ok (.bipush 48, 2) := by decide +kernel
theorem dX7_age_3 : decode cX7_age 3 = .ok (.bipush 57, 2) := by decide +kernel
theorem dX7_age_5 : decode cX7_age 5 = .ok (.invokevirtual 87, 3) := by decide +kernel
theorem dX7_age_8 : decode cX7_age 8 = .ok (.istore_n 1, 1) := by decide +kernel
theorem dX7_age_9 : decode cX7_age 9 = .ok (.iload_n 1, 1) := by decide +kernel
theorem dX7_age_10 : decode cX7_age 10 = .ok (.ifCond .le 71, 3) := by decide +kernel
theorem dX7_age_13 : decode cX7_age 13 = .ok (.aload_n 0, 1) := by decide +kernel
theorem dX7_age_14 : decode cX7_age 14 = .ok (.aload_n 0, 1) := by decide +kernel
theorem dX7_age_15 : decode cX7_age 15 = .ok (.getfield 80, 3) := by decide +kernel
theorem dX7_age_18 : decode cX7_age 18 = .ok (.bipush 48, 2) := by decide +kernel
theorem dX7_age_20 : decode cX7_age 20 = .ok (.bipush 57, 2) := by decide +kernel
theorem dX7_age_22 : decode cX7_age 22 = .ok (.invokevirtual 83, 3) := by decide +kernel
theorem dX7_age_25 : decode cX7_age 25 = .ok (.ifCond .eq 56, 3) := by decide +kernel
theorem dX7_age_28 : decode cX7_age 28 = .ok (.bipush 10, 2) := by decide +kernel
theorem dX7_age_30 : decode cX7_age 30 = .ok (.iload_n 1, 1) := by decide +kernel
theorem dX7_age_31 : decode cX7_age 31 = .ok (.imul, 1) := by decide +kernel
theorem dX7_age_32 : decode cX7_age 32 = .ok (.aload_n 0, 1) := by decide +kernel
theorem dX7_age_33 : decode cX7_age 33 = .ok (.getfield 26, 3) := by decide +kernel
theorem dX7_age_36 : decode cX7_age 36 = .ok (.aload_n 0, 1) := by decide +kernel
theorem dX7_age_37 : decode cX7_age 37 = .ok (.getfield 80, 3) := by decide +kernel
theorem dX7_age_40 : decode cX7_age 40 = .ok (.caload, 1) := by decide +kernel
theorem dX7_age_41 : decode cX7_age 41 = .ok (.iadd, 1) := by decide +kernel
theorem dX7_age_42 : decode cX7_age 42 = .ok (.bipush 48, 2) := by decide +kernel
theorem dX7_age_44 : decode cX7_age 44 = .ok (.isub, 1) := by decide +kernel
theorem dX7_age_45 : decode cX7_age 45 = .ok (.bipush 110, 2) := by decide +kernel
theorem dX7_age_47 : decode cX7_age 47 = .ok (.if_icmp .gt 34, 3) := by decide +kernel
theorem dX7_age_50 : decode cX7_age 50 = .ok (.bipush 10, 2) := by decide +kernel
theorem dX7_age_52 : decode cX7_age 52 = .ok (.iload_n 1, 1) := by decide +kernel
theorem dX7_age_53 : decode cX7_age 53 = .ok (.imul, 1) := by decide +kernel
theorem dX7_age_54 : decode cX7_age 54 = .ok (.aload_n 0, 1) := by decide +kernel
theorem dX7_age_55 : decode cX7_age 55 = .ok (.getfield 26, 3) := by decide +kernel
theorem dX7_age_58 : decode cX7_age 58 = .ok (.aload_n 0, 1) := by decide +kernel
theorem dX7_age_59 : decode cX7_age 59 = .ok (.getfield 80, 3) := by decide +kernel
theorem dX7_age_62 : decode cX7_age 62 = .ok (.caload, 1) := by decide +kernel
theorem dX7_age_63 : decode cX7_age 63 = .ok (.iadd, 1) := by decide +kernel
theorem dX7_age_64 : decode cX7_age 64 = .ok (.bipush 48, 2) := by decide +kernel
theorem dX7_age_66 : decode cX7_age 66 = .ok (.isub, 1) := by decide +kernel
theorem dX7_age_67 : decode cX7_age 67 = .ok (.istore_n 1, 1) := by decide +kernel
theorem dX7_age_68 : decode cX7_age 68 = .ok (.aload_n 0, 1) := by decide +kernel
theorem dX7_age_69 : decode cX7_age 69 = .ok (.dup, 1) := by decide +kernel
theorem dX7_age_70 : decode cX7_age 70 = .ok (.getfield 80, 3) := by decide +kernel
theorem dX7_age_73 : decode cX7_age 73 = .ok (.iconst 1, 1) := by decide +kernel
theorem dX7_age_74 : decode cX7_age 74 = .ok (.iadd, 1) := by decide +kernel
theorem dX7_age_75 : decode cX7_age 75 = .ok (.putfield 80, 3) := by decide +kernel
theorem dX7_age_78 : decode cX7_age 78 = .ok (.goto (-69), 3) := by decide +kernel
theorem dX7_age_81 : decode cX7_age 81 = .ok (.iload_n 1, 1) := by decide +kernel
theorem dX7_age_82 : decode cX7_age 82 = .ok (.ireturn, 1) := by decide +kernel
theorem dX7_readsFact_0 : decode cX7_readsFact 0 = .ok (.iload_n 1, 1) := by decide +kernel
theorem dX7_readsFact_1 : decode cX7_readsFact 1 = .ok (.iconst 3, 1) := by decide +kernel
theorem dX7_readsFact_2 : decode cX7_readsFact 2 = .ok (.iadd, 1) := by decide +kernel
theorem dX7_readsFact_3 : decode cX7_readsFact 3 = .ok (.iconst 2, 1) := by decide +kernel
theorem dX7_readsFact_4 : decode cX7_readsFact 4 = .ok (.aload_n 0, 1) := by decide +kernel
theorem dX7_readsFact_5 : decode cX7_readsFact 5 = .ok (.getfield 30, 3) := by decide +kernel
theorem dX7_readsFact_8 : decode cX7_readsFact 8 = .ok (.iload_n 1, 1) := by decide +kernel
theorem dX7_readsFact_9 : decode cX7_readsFact 9 = .ok (.iconst 2, 1) := by decide +kernel
theorem dX7_readsFact_10 : decode cX7_readsFact 10 = .ok (.iadd, 1) := by decide +kernel
theorem dX7_readsFact_11 : decode cX7_readsFact 11 = .ok (.iaload, 1) := by decide +kernel
theorem dX7_readsFact_12 : decode cX7_readsFact 12 = .ok (.imul, 1) := by decide +kernel
theorem dX7_readsFact_13 : decode cX7_readsFact 13 = .ok (.iadd, 1) := by decide +kernel
theorem dX7_readsFact_14 : decode cX7_readsFact 14 = .ok (.istore_n 2, 1) := by decide +kernel
theorem dX7_readsFact_15 : decode cX7_readsFact 15 = .ok (.aload_n 0, 1) := by decide +kernel
theorem dX7_readsFact_16 : decode cX7_readsFact 16 = .ok (.getfield 30, 3) := by decide +kernel
theorem dX7_readsFact_19 : decode cX7_readsFact 19 = .ok (.iload_n 2, 1) := by decide +kernel
theorem dX7_readsFact_20 : decode cX7_readsFact 20 = .ok (.aload_n 0, 1) := by decide +kernel
theorem dX7_readsFact_21 : decode cX7_readsFact 21 = .ok (.bipush 48, 2) := by decide +kernel
theorem dX7_readsFact_23 : decode cX7_readsFact 23 = .ok (.bipush 53, 2) := by decide +kernel
theorem dX7_readsFact_25 : decode cX7_readsFact 25 = .ok (.invokevirtual 87, 3) := by decide +kernel
theorem dX7_readsFact_28 : decode cX7_readsFact 28 = .ok (.iastore, 1) := by decide +kernel
theorem dX7_readsFact_29 : decode cX7_readsFact 29 = .ok (.aload_n 0, 1) := by decide +kernel
theorem dX7_readsFact_30 : decode cX7_readsFact 30 = .ok (.getfield 30, 3) := by decide +kernel
theorem dX7_readsFact_33 : decode cX7_readsFact 33 = .ok (.iload_n 2, 1) := by decide +kernel
theorem dX7_readsFact_34 : decode cX7_readsFact 34 = .ok (.iaload, 1) := by decide +kernel
theorem dX7_readsFact_35 : decode cX7_readsFact 35 = .ok (.ifCond .lt 12, 3) := by decide +kernel
theorem dX7_readsFact_38 : decode cX7_readsFact 38 = .ok (.aload_n 0, 1) := by decide +kernel
theorem dX7_readsFact_39 : decode cX7_readsFact 39 = .ok (.bipush 120, 2) := by decide +kernel
theorem dX7_readsFact_41 : decode cX7_readsFact 41 = .ok (.invokevirtual 91, 3) := by decide +kernel
theorem dX7_readsFact_44 : decode cX7_readsFact 44 = .ok (.ifCond .ne 5, 3) := by decide +kernel
theorem dX7_readsFact_47 : decode cX7_readsFact 47 = .ok (.iconst 0, 1) := by decide +kernel
theorem dX7_readsFact_48 : decode cX7_readsFact 48 = .ok (.ireturn, 1) := by decide +kernel
theorem dX7_readsFact_49 : decode cX7_readsFact 49 = .ok (.aload_n 0, 1) := by decide +kernel
theorem dX7_readsFact_50 : decode cX7_readsFact 50 = .ok (.getfield 30, 3) := by decide +kernel
theorem dX7_readsFact_53 : decode cX7_readsFact 53 = .ok (.iload_n 2, 1) := by decide +kernel
theorem dX7_readsFact_54 : decode cX7_readsFact 54 = .ok (.iconst 1, 1) := by decide +kernel
theorem dX7_readsFact_55 : decode cX7_readsFact 55 = .ok (.iadd, 1) := by decide +kernel
theorem dX7_readsFact_56 : decode cX7_readsFact 56 = .ok (.aload_n 0, 1) := by decide +kernel
theorem dX7_readsFact_57 : decode cX7_readsFact 57 = .ok (.bipush 49, 2) := by decide +kernel
theorem dX7_readsFact_59 : decode cX7_readsFact 59 = .ok (.bipush 57, 2) := by decide +kernel
theorem dX7_readsFact_61 : decode cX7_readsFact 61 = .ok (.invokevirtual 87, 3) := by decide +kernel
theorem dX7_readsFact_64 : decode cX7_readsFact 64 = .ok (.iastore, 1) := by decide +kernel
theorem dX7_readsFact_65 : decode cX7_readsFact 65 = .ok (.aload_n 0, 1) := by decide +kernel
theorem dX7_readsFact_66 : decode cX7_readsFact 66 = .ok (.getfield 30, 3) := by decide +kernel
theorem dX7_readsFact_69 : decode cX7_readsFact 69 = .ok (.iload_n 1, 1) := by decide +kernel
theorem dX7_readsFact_70 : decode cX7_readsFact 70 = .ok (.iconst 2, 1) := by decide +kernel
theorem dX7_readsFact_71 : decode cX7_readsFact 71 = .ok (.iadd, 1) := by decide +kernel
theorem dX7_readsFact_72 : decode cX7_readsFact 72 = .ok (.dup2, 1) := by decide +kernel
theorem dX7_readsFact_73 : decode cX7_readsFact 73 = .ok (.iaload, 1) := by decide +kernel
theorem dX7_readsFact_74 : decode cX7_readsFact 74 = .ok (.iconst 1, 1) := by decide +kernel
theorem dX7_readsFact_75 : decode cX7_readsFact 75 = .ok (.iadd, 1) := by decide +kernel
theorem dX7_readsFact_76 : decode cX7_readsFact 76 = .ok (.iastore, 1) := by decide +kernel
theorem dX7_readsFact_77 : decode cX7_readsFact 77 = .ok (.aload_n 0, 1) := by decide +kernel
theorem dX7_readsFact_78 : decode cX7_readsFact 78 = .ok (.getfield 30, 3) := by decide +kernel
theorem dX7_readsFact_81 : decode cX7_readsFact 81 = .ok (.iload_n 2, 1) := by decide +kernel
theorem dX7_readsFact_82 : decode cX7_readsFact 82 = .ok (.iconst 1, 1) := by decide +kernel
theorem dX7_readsFact_83 : decode cX7_readsFact 83 = .ok (.iadd, 1) := by decide +kernel
theorem dX7_readsFact_84 : decode cX7_readsFact 84 = .ok (.iaload, 1) := by decide +kernel
theorem dX7_readsFact_85 : decode cX7_readsFact 85 = .ok (.ifCond .le 7, 3) := by decide +kernel
theorem dX7_readsFact_88 : decode cX7_readsFact 88 = .ok (.iconst 1, 1) := by decide +kernel
theorem dX7_readsFact_89 : decode cX7_readsFact 89 = .ok (.goto 4, 3) := by decide +kernel
theorem dX7_readsFact_92 : decode cX7_readsFact 92 = .ok (.iconst 0, 1) := by decide +kernel
theorem dX7_readsFact_93 : decode cX7_readsFact 93 = .ok (.ireturn, 1) := by decide +kernel
theorem dX7_readsPerson_0 : decode cX7_readsPerson 0 = .ok (.bipush 20, 2) := by decide +kernel
theorem dX7_readsPerson_2 : decode cX7_readsPerson 2 = .ok (.aload_n 0, 1) := by decide +kernel
theorem dX7_readsPerson_3 : decode cX7_readsPerson 3 = .ok (.getfield 95, 3) := by decide +kernel
theorem dX7_readsPerson_6 : decode cX7_readsPerson 6 = .ok (.imul, 1) := by decide +kernel
theorem dX7_readsPerson_7 : decode cX7_readsPerson 7 = .ok (.istore_n 1, 1) := by decide +kernel
theorem dX7_readsPerson_8 : decode cX7_readsPerson 8 = .ok (.aload_n 0, 1) := by decide +kernel
theorem dX7_readsPerson_9 : decode cX7_readsPerson 9 = .ok (.getfield 30, 3) := by decide +kernel
theorem dX7_readsPerson_12 : decode cX7_readsPerson 12 = .ok (.iload_n 1, 1) := by decide +kernel
theorem dX7_readsPerson_13 : decode cX7_readsPerson 13 = .ok (.aload_n 0, 1) := by decide +kernel
theorem dX7_readsPerson_14 : decode cX7_readsPerson 14 = .ok (.invokevirtual 98, 3) := by decide +kernel
theorem dX7_readsPerson_17 : decode cX7_readsPerson 17 = .ok (.iastore, 1) := by decide +kernel
theorem dX7_readsPerson_18 : decode cX7_readsPerson 18 = .ok (.aload_n 0, 1) := by decide +kernel
theorem dX7_readsPerson_19 : decode cX7_readsPerson 19 = .ok (.getfield 30, 3) := by decide +kernel
theorem dX7_readsPerson_22 : decode cX7_readsPerson 22 = .ok (.iload_n 1, 1) := by decide +kernel
theorem dX7_readsPerson_23 : decode cX7_readsPerson 23 = .ok (.iconst 2, 1) := by decide +kernel
theorem dX7_readsPerson_24 : decode cX7_readsPerson 24 = .ok (.iadd, 1) := by decide +kernel
theorem dX7_readsPerson_25 : decode cX7_readsPerson 25 = .ok (.iconst 0, 1) := by decide +kernel
theorem dX7_readsPerson_26 : decode cX7_readsPerson 26 = .ok (.iastore, 1) := by decide +kernel
theorem dX7_readsPerson_27 : decode cX7_readsPerson 27 = .ok (.aload_n 0, 1) := by decide +kernel
theorem dX7_readsPerson_28 : decode cX7_readsPerson 28 = .ok (.getfield 30, 3) := by decide +kernel
theorem dX7_readsPerson_31 : decode cX7_readsPerson 31 = .ok (.iload_n 1, 1) := by decide +kernel
theorem dX7_readsPerson_32 : decode cX7_readsPerson 32 = .ok (.iaload, 1) := by decide +kernel
theorem dX7_readsPerson_33 : decode cX7_readsPerson 33 = .ok (.ifCond .lt 12, 3) := by decide +kernel
theorem dX7_readsPerson_36 : decode cX7_readsPerson 36 = .ok (.aload_n 0, 1) := by decide +kernel
theorem dX7_readsPerson_37 : decode cX7_readsPerson 37 = .ok (.bipush 114, 2) := by decide +kernel
theorem dX7_readsPerson_39 : decode cX7_readsPerson 39 = .ok (.invokevirtual 91, 3) := by decide +kernel
theorem dX7_readsPerson_42 : decode cX7_readsPerson 42 = .ok (.ifCond .ne 5, 3) := by decide +kernel
theorem dX7_readsPerson_45 : decode cX7_readsPerson 45 = .ok (.iconst 0, 1) := by decide +kernel
theorem dX7_readsPerson_46 : decode cX7_readsPerson 46 = .ok (.ireturn, 1) := by decide +kernel
theorem dX7_readsPerson_47 : decode cX7_readsPerson 47 = .ok (.aload_n 0, 1) := by decide +kernel
theorem dX7_readsPerson_48 : decode cX7_readsPerson 48 = .ok (.getfield 30, 3) := by decide +kernel
theorem dX7_readsPerson_51 : decode cX7_readsPerson 51 = .ok (.iload_n 1, 1) := by decide +kernel
theorem dX7_readsPerson_52 : decode cX7_readsPerson 52 = .ok (.iconst 1, 1) := by decide +kernel
theorem dX7_readsPerson_53 : decode cX7_readsPerson 53 = .ok (.iadd, 1) := by decide +kernel
theorem dX7_readsPerson_54 : decode cX7_readsPerson 54 = .ok (.aload_n 0, 1) := by decide +kernel
theorem dX7_readsPerson_55 : decode cX7_readsPerson 55 = .ok (.bipush 49, 2) := by decide +kernel
theorem dX7_readsPerson_57 : decode cX7_readsPerson 57 = .ok (.bipush 57, 2) := by decide +kernel
theorem dX7_readsPerson_59 : decode cX7_readsPerson 59 = .ok (.invokevirtual 87, 3) := by decide +kernel
theorem dX7_readsPerson_62 : decode cX7_readsPerson 62 = .ok (.iastore, 1) := by decide +kernel
theorem dX7_readsPerson_63 : decode cX7_readsPerson 63 = .ok (.aload_n 0, 1) := by decide +kernel
theorem dX7_readsPerson_64 : decode cX7_readsPerson 64 = .ok (.getfield 30, 3) := by decide +kernel
theorem dX7_readsPerson_67 : decode cX7_readsPerson 67 = .ok (.iload_n 1, 1) := by decide +kernel
theorem dX7_readsPerson_68 : decode cX7_readsPerson 68 = .ok (.iconst 1, 1) := by decide +kernel
theorem dX7_readsPerson_69 : decode cX7_readsPerson 69 = .ok (.iadd, 1) := by decide +kernel
theorem dX7_readsPerson_70 : decode cX7_readsPerson 70 = .ok (.iaload, 1) := by decide +kernel
theorem dX7_readsPerson_71 : decode cX7_readsPerson 71 = .ok (.ifCond .le 7, 3) := by decide +kernel
theorem dX7_readsPerson_74 : decode cX7_readsPerson 74 = .ok (.iconst 1, 1) := by decide +kernel
theorem dX7_readsPerson_75 : decode cX7_readsPerson 75 = .ok (.goto 4, 3) := by decide +kernel
theorem dX7_readsPerson_78 : decode cX7_readsPerson 78 = .ok (.iconst 0, 1) := by decide +kernel
theorem dX7_readsPerson_79 : decode cX7_readsPerson 79 = .ok (.istore_n 2, 1) := by decide +kernel
theorem dX7_readsPerson_80 : decode cX7_readsPerson 80 = .ok (.iload_n 2, 1) := by decide +kernel
theorem dX7_readsPerson_81 : decode cX7_readsPerson 81 = .ok (.ifCond .eq 34, 3) := by decide +kernel
theorem dX7_readsPerson_84 : decode cX7_readsPerson 84 = .ok (.aload_n 0, 1) := by decide +kernel
theorem dX7_readsPerson_85 : decode cX7_readsPerson 85 = .ok (.getfield 30, 3) := by decide +kernel
theorem dX7_readsPerson_88 : decode cX7_readsPerson 88 = .ok (.iload_n 1, 1) := by decide +kernel
theorem dX7_readsPerson_89 : decode cX7_readsPerson 89 = .ok (.iconst 2, 1) := by decide +kernel
theorem dX7_readsPerson_90 : decode cX7_readsPerson 90 = .ok (.iadd, 1) := by decide +kernel
theorem dX7_readsPerson_91 : decode cX7_readsPerson 91 = .ok (.iaload, 1) := by decide +kernel
theorem dX7_readsPerson_92 : decode cX7_readsPerson 92 = .ok (.bipush 8, 2) := by decide +kernel
theorem dX7_readsPerson_94 : decode cX7_readsPerson 94 = .ok (.if_icmp .ge 21, 3) := by decide +kernel
theorem dX7_readsPerson_97 : decode cX7_readsPerson 97 = .ok (.aload_n 0, 1) := by decide +kernel
theorem dX7_readsPerson_98 : decode cX7_readsPerson 98 = .ok (.bipush 44, 2) := by decide +kernel
theorem dX7_readsPerson_100 : decode cX7_readsPerson 100 = .ok (.invokevirtual 91, 3) := by decide +kernel
theorem dX7_readsPerson_103 : decode cX7_readsPerson 103 = .ok (.ifCond .eq 12, 3) := by decide +kernel
theorem dX7_readsPerson_106 : decode cX7_readsPerson 106 = .ok (.aload_n 0, 1) := by decide +kernel
theorem dX7_readsPerson_107 : decode cX7_readsPerson 107 = .ok (.iload_n 1, 1) := by decide +kernel
theorem dX7_readsPerson_108 : decode cX7_readsPerson 108 = .ok (.invokevirtual 102, 3) := by decide +kernel
theorem dX7_readsPerson_111 : decode cX7_readsPerson 111 = .ok (.istore_n 2, 1) := by decide +kernel
theorem dX7_readsPerson_112 : decode cX7_readsPerson 112 = .ok (.goto (-32), 3) := by decide +kernel
theorem dX7_readsPerson_115 : decode cX7_readsPerson 115 = .ok (.aload_n 0, 1) := by decide +kernel
theorem dX7_readsPerson_116 : decode cX7_readsPerson 116 = .ok (.dup, 1) := by decide +kernel
theorem dX7_readsPerson_117 : decode cX7_readsPerson 117 = .ok (.getfield 95, 3) := by decide +kernel
theorem dX7_readsPerson_120 : decode cX7_readsPerson 120 = .ok (.iload_n 2, 1) := by decide +kernel
theorem dX7_readsPerson_121 : decode cX7_readsPerson 121 = .ok (.ifCond .eq 7, 3) := by decide +kernel
theorem dX7_readsPerson_124 : decode cX7_readsPerson 124 = .ok (.iconst 1, 1) := by decide +kernel
theorem dX7_readsPerson_125 : decode cX7_readsPerson 125 = .ok (.goto 4, 3) := by decide +kernel
theorem dX7_readsPerson_128 : decode cX7_readsPerson 128 = .ok (.iconst 0, 1) := by decide +kernel
theorem dX7_readsPerson_129 : decode cX7_readsPerson 129 = .ok (.iadd, 1) := by decide +kernel
theorem dX7_readsPerson_130 : decode cX7_readsPerson 130 = .ok (.putfield 95, 3) := by decide +kernel
theorem dX7_readsPerson_133 : decode cX7_readsPerson 133 = .ok (.iload_n 2, 1) := by decide +kernel
theorem dX7_readsPerson_134 : decode cX7_readsPerson 134 = .ok (.ireturn, 1) := by decide +kernel
theorem dX7_faultOf_0 : decode cX7_faultOf 0 = .ok (.aload_n 0, 1) := by decide +kernel
theorem dX7_faultOf_1 : decode cX7_faultOf 1 = .ok (.iconst 0, 1) := by decide +kernel
theorem dX7_faultOf_2 : decode cX7_faultOf 2 = .ok (.putfield 80, 3) := by decide +kernel
theorem dX7_faultOf_5 : decode cX7_faultOf 5 = .ok (.aload_n 0, 1) := by decide +kernel
theorem dX7_faultOf_6 : decode cX7_faultOf 6 = .ok (.iconst 0, 1) := by decide +kernel
theorem dX7_faultOf_7 : decode cX7_faultOf 7 = .ok (.putfield 95, 3) := by decide +kernel
theorem dX7_faultOf_10 : decode cX7_faultOf 10 = .ok (.aload_n 0, 1) := by decide +kernel
theorem dX7_faultOf_11 : decode cX7_faultOf 11 = .ok (.invokevirtual 105, 3) := by decide +kernel
theorem dX7_faultOf_14 : decode cX7_faultOf 14 = .ok (.istore_n 1, 1) := by decide +kernel
theorem dX7_faultOf_15 : decode cX7_faultOf 15 = .ok (.iload_n 1, 1) := by decide +kernel
theorem dX7_faultOf_16 : decode cX7_faultOf 16 = .ok (.ifCond .eq 39, 3) := by decide +kernel
theorem dX7_faultOf_19 : decode cX7_faultOf 19 = .ok (.aload_n 0, 1) := by decide +kernel
theorem dX7_faultOf_20 : decode cX7_faultOf 20 = .ok (.getfield 80, 3) := by decide +kernel
theorem dX7_faultOf_23 : decode cX7_faultOf 23 = .ok (.aload_n 0, 1) := by decide +kernel
theorem dX7_faultOf_24 : decode cX7_faultOf 24 = .ok (.getfield 77, 3) := by decide +kernel
theorem dX7_faultOf_27 : decode cX7_faultOf 27 = .ok (.if_icmp .ge 28, 3) := by decide +kernel
theorem dX7_faultOf_30 : decode cX7_faultOf 30 = .ok (.aload_n 0, 1) := by decide +kernel
theorem dX7_faultOf_31 : decode cX7_faultOf 31 = .ok (.bipush 59, 2) := by decide +kernel
theorem dX7_faultOf_33 : decode cX7_faultOf 33 = .ok (.invokevirtual 91, 3) := by decide +kernel
theorem dX7_faultOf_36 : decode cX7_faultOf 36 = .ok (.ifCond .eq 14, 3) := by decide +kernel
theorem dX7_faultOf_39 : decode cX7_faultOf 39 = .ok (.aload_n 0, 1) := by decide +kernel
theorem dX7_faultOf_40 : decode cX7_faultOf 40 = .ok (.invokevirtual 105, 3) := by decide +kernel
theorem dX7_faultOf_43 : decode cX7_faultOf 43 = .ok (.ifCond .eq 7, 3) := by decide +kernel
theorem dX7_faultOf_46 : decode cX7_faultOf 46 = .ok (.iconst 1, 1) := by decide +kernel
theorem dX7_faultOf_47 : decode cX7_faultOf 47 = .ok (.goto 4, 3) := by decide +kernel
theorem dX7_faultOf_50 : decode cX7_faultOf 50 = .ok (.iconst 0, 1) := by decide +kernel
theorem dX7_faultOf_51 : decode cX7_faultOf 51 = .ok (.istore_n 1, 1) := by decide +kernel
theorem dX7_faultOf_52 : decode cX7_faultOf 52 = .ok (.goto (-37), 3) := by decide +kernel
theorem dX7_faultOf_55 : decode cX7_faultOf 55 = .ok (.iload_n 1, 1) := by decide +kernel
theorem dX7_faultOf_56 : decode cX7_faultOf 56 = .ok (.ifCond .eq 7, 3) := by decide +kernel
theorem dX7_faultOf_59 : decode cX7_faultOf 59 = .ok (.iconst (-1), 1) := by decide +kernel
theorem dX7_faultOf_60 : decode cX7_faultOf 60 = .ok (.goto 7, 3) := by decide +kernel
theorem dX7_faultOf_63 : decode cX7_faultOf 63 = .ok (.aload_n 0, 1) := by decide +kernel
theorem dX7_faultOf_64 : decode cX7_faultOf 64 = .ok (.getfield 80, 3) := by decide +kernel
theorem dX7_faultOf_67 : decode cX7_faultOf 67 = .ok (.ireturn, 1) := by decide +kernel
theorem dX7_addPersons_0 : decode cX7_addPersons 0 = .ok (.aload_n 0, 1) := by decide +kernel
theorem dX7_addPersons_1 : decode cX7_addPersons 1 = .ok (.invokevirtual 109, 3) := by decide +kernel
theorem dX7_addPersons_4 : decode cX7_addPersons 4 = .ok (.istore_n 1, 1) := by decide +kernel
theorem dX7_addPersons_5 : decode cX7_addPersons 5 = .ok (.iload_n 1, 1) := by decide +kernel
theorem dX7_addPersons_6 : decode cX7_addPersons 6 = .ok (.ifCond .lt 8, 3) := by decide +kernel
theorem dX7_addPersons_9 : decode cX7_addPersons 9 = .ok (.bipush (-100), 2) := by decide +kernel
theorem dX7_addPersons_11 : decode cX7_addPersons 11 = .ok (.iload_n 1, 1) := by decide +kernel
theorem dX7_addPersons_12 : decode cX7_addPersons 12 = .ok (.isub, 1) := by decide +kernel
theorem dX7_addPersons_13 : decode cX7_addPersons 13 = .ok (.ireturn, 1) := by decide +kernel
theorem dX7_addPersons_14 : decode cX7_addPersons 14 = .ok (.aload_n 0, 1) := by decide +kernel
theorem dX7_addPersons_15 : decode cX7_addPersons 15 = .ok (.getfield 7, 3) := by decide +kernel
theorem dX7_addPersons_18 : decode cX7_addPersons 18 = .ok (.iconst 1, 1) := by decide +kernel
theorem dX7_addPersons_19 : decode cX7_addPersons 19 = .ok (.iaload, 1) := by decide +kernel
theorem dX7_addPersons_20 : decode cX7_addPersons 20 = .ok (.aload_n 0, 1) := by decide +kernel
theorem dX7_addPersons_21 : decode cX7_addPersons 21 = .ok (.getfield 95, 3) := by decide +kernel
theorem dX7_addPersons_24 : decode cX7_addPersons 24 = .ok (.iadd, 1) := by decide +kernel
theorem dX7_addPersons_25 : decode cX7_addPersons 25 = .ok (.bipush 20, 2) := by decide +kernel
theorem dX7_addPersons_27 : decode cX7_addPersons 27 = .ok (.if_icmp .le 6, 3) := by decide +kernel
theorem dX7_addPersons_30 : decode cX7_addPersons 30 = .ok (.bipush (-3), 2) := by decide +kernel
theorem dX7_addPersons_32 : decode cX7_addPersons 32 = .ok (.ireturn, 1) := by decide +kernel
theorem dX7_addPersons_33 : decode cX7_addPersons 33 = .ok (.aload_n 0, 1) := by decide +kernel
theorem dX7_addPersons_34 : decode cX7_addPersons 34 = .ok (.invokevirtual 71, 3) := by decide +kernel
theorem dX7_addPersons_37 : decode cX7_addPersons 37 = .ok (.iconst 0, 1) := by decide +kernel
theorem dX7_addPersons_38 : decode cX7_addPersons 38 = .ok (.istore_n 2, 1) := by decide +kernel
theorem dX7_addPersons_39 : decode cX7_addPersons 39 = .ok (.iload_n 2, 1) := by decide +kernel
theorem dX7_addPersons_40 : decode cX7_addPersons 40 = .ok (.aload_n 0, 1) := by decide +kernel
theorem dX7_addPersons_41 : decode cX7_addPersons 41 = .ok (.getfield 95, 3) := by decide +kernel
theorem dX7_addPersons_44 : decode cX7_addPersons 44 = .ok (.if_icmp .ge 96, 3) := by decide +kernel
theorem dX7_addPersons_47 : decode cX7_addPersons 47 = .ok (.aload_n 0, 1) := by decide +kernel
theorem dX7_addPersons_48 : decode cX7_addPersons 48 = .ok (.aload_n 0, 1) := by decide +kernel
theorem dX7_addPersons_49 : decode cX7_addPersons 49 = .ok (.getfield 30, 3) := by decide +kernel
theorem dX7_addPersons_52 : decode cX7_addPersons 52 = .ok (.bipush 20, 2) := by decide +kernel
theorem dX7_addPersons_54 : decode cX7_addPersons 54 = .ok (.iload_n 2, 1) := by decide +kernel
theorem dX7_addPersons_55 : decode cX7_addPersons 55 = .ok (.imul, 1) := by decide +kernel
theorem dX7_addPersons_56 : decode cX7_addPersons 56 = .ok (.iaload, 1) := by decide +kernel
theorem dX7_addPersons_57 : decode cX7_addPersons 57 = .ok (.aload_n 0, 1) := by decide +kernel
theorem dX7_addPersons_58 : decode cX7_addPersons 58 = .ok (.getfield 30, 3) := by decide +kernel
theorem dX7_addPersons_61 : decode cX7_addPersons 61 = .ok (.bipush 20, 2) := by decide +kernel
theorem dX7_addPersons_63 : decode cX7_addPersons 63 = .ok (.iload_n 2, 1) := by decide +kernel
theorem dX7_addPersons_64 : decode cX7_addPersons 64 = .ok (.imul, 1) := by decide +kernel
theorem dX7_addPersons_65 : decode cX7_addPersons 65 = .ok (.iconst 1, 1) := by decide +kernel
theorem dX7_addPersons_66 : decode cX7_addPersons 66 = .ok (.iadd, 1) := by decide +kernel
theorem dX7_addPersons_67 : decode cX7_addPersons 67 = .ok (.iaload, 1) := by decide +kernel
theorem dX7_addPersons_68 : decode cX7_addPersons 68 = .ok (.invokevirtual 74, 3) := by decide +kernel
theorem dX7_addPersons_71 : decode cX7_addPersons 71 = .ok (.istore_n 3, 1) := by decide +kernel
theorem dX7_addPersons_72 : decode cX7_addPersons 72 = .ok (.iconst 0, 1) := by decide +kernel
theorem dX7_addPersons_73 : decode cX7_addPersons 73 = .ok (.istore 4, 2) := by decide +kernel
theorem dX7_addPersons_75 : decode cX7_addPersons 75 = .ok (.iload 4, 2) := by decide +kernel
theorem dX7_addPersons_77 : decode cX7_addPersons 77 = .ok (.aload_n 0, 1) := by decide +kernel
theorem dX7_addPersons_78 : decode cX7_addPersons 78 = .ok (.getfield 30, 3) := by decide +kernel
theorem dX7_addPersons_81 : decode cX7_addPersons 81 = .ok (.bipush 20, 2) := by decide +kernel
theorem dX7_addPersons_83 : decode cX7_addPersons 83 = .ok (.iload_n 2, 1) := by decide +kernel
theorem dX7_addPersons_84 : decode cX7_addPersons 84 = .ok (.imul, 1) := by decide +kernel
theorem dX7_addPersons_85 : decode cX7_addPersons 85 = .ok (.iconst 2, 1) := by decide +kernel
theorem dX7_addPersons_86 : decode cX7_addPersons 86 = .ok (.iadd, 1) := by decide +kernel
theorem dX7_addPersons_87 : decode cX7_addPersons 87 = .ok (.iaload, 1) := by decide +kernel
theorem dX7_addPersons_88 : decode cX7_addPersons 88 = .ok (.if_icmp .ge 46, 3) := by decide +kernel
theorem dX7_addPersons_91 : decode cX7_addPersons 91 = .ok (.aload_n 0, 1) := by decide +kernel
theorem dX7_addPersons_92 : decode cX7_addPersons 92 = .ok (.iload_n 3, 1) := by decide +kernel
theorem dX7_addPersons_93 : decode cX7_addPersons 93 = .ok (.aload_n 0, 1) := by decide +kernel
theorem dX7_addPersons_94 : decode cX7_addPersons 94 = .ok (.getfield 30, 3) := by decide +kernel
theorem dX7_addPersons_97 : decode cX7_addPersons 97 = .ok (.bipush 20, 2) := by decide +kernel
theorem dX7_addPersons_99 : decode cX7_addPersons 99 = .ok (.iload_n 2, 1) := by decide +kernel
theorem dX7_addPersons_100 : decode cX7_addPersons 100 = .ok (.imul, 1) := by decide +kernel
theorem dX7_addPersons_101 : decode cX7_addPersons 101 = .ok (.iconst 3, 1) := by decide +kernel
theorem dX7_addPersons_102 : decode cX7_addPersons 102 = .ok (.iadd, 1) := by decide +kernel
theorem dX7_addPersons_103 : decode cX7_addPersons 103 = .ok (.iconst 2, 1) := by decide +kernel
theorem dX7_addPersons_104 : decode cX7_addPersons 104 = .ok (.iload 4, 2) := by decide +kernel
theorem dX7_addPersons_106 : decode cX7_addPersons 106 = .ok (.imul, 1) := by decide +kernel
theorem dX7_addPersons_107 : decode cX7_addPersons 107 = .ok (.iadd, 1) := by decide +kernel
theorem dX7_addPersons_108 : decode cX7_addPersons 108 = .ok (.iaload, 1) := by decide +kernel
theorem dX7_addPersons_109 : decode cX7_addPersons 109 = .ok (.aload_n 0, 1) := by decide +kernel
theorem dX7_addPersons_110 : decode cX7_addPersons 110 = .ok (.getfield 30, 3) := by decide +kernel
theorem dX7_addPersons_113 : decode cX7_addPersons 113 = .ok (.bipush 20, 2) := by decide +kernel
theorem dX7_addPersons_115 : decode cX7_addPersons 115 = .ok (.iload_n 2, 1) := by decide +kernel
theorem dX7_addPersons_116 : decode cX7_addPersons 116 = .ok (.imul, 1) := by decide +kernel
theorem dX7_addPersons_117 : decode cX7_addPersons 117 = .ok (.iconst 4, 1) := by decide +kernel
theorem dX7_addPersons_118 : decode cX7_addPersons 118 = .ok (.iadd, 1) := by decide +kernel
theorem dX7_addPersons_119 : decode cX7_addPersons 119 = .ok (.iconst 2, 1) := by decide +kernel
theorem dX7_addPersons_120 : decode cX7_addPersons 120 = .ok (.iload 4, 2) := by decide +kernel
theorem dX7_addPersons_122 : decode cX7_addPersons 122 = .ok (.imul, 1) := by decide +kernel
theorem dX7_addPersons_123 : decode cX7_addPersons 123 = .ok (.iadd, 1) := by decide +kernel
theorem dX7_addPersons_124 : decode cX7_addPersons 124 = .ok (.iaload, 1) := by decide +kernel
theorem dX7_addPersons_125 : decode cX7_addPersons 125 = .ok (.invokevirtual 112, 3) := by decide +kernel
theorem dX7_addPersons_128 : decode cX7_addPersons 128 = .ok (.iinc 4 1, 3) := by decide +kernel
theorem dX7_addPersons_131 : decode cX7_addPersons 131 = .ok (.goto (-56), 3) := by decide +kernel
theorem dX7_addPersons_134 : decode cX7_addPersons 134 = .ok (.iinc 2 1, 3) := by decide +kernel
theorem dX7_addPersons_137 : decode cX7_addPersons 137 = .ok (.goto (-98), 3) := by decide +kernel
theorem dX7_addPersons_140 : decode cX7_addPersons 140 = .ok (.aload_n 0, 1) := by decide +kernel
theorem dX7_addPersons_141 : decode cX7_addPersons 141 = .ok (.getfield 95, 3) := by decide +kernel
theorem dX7_addPersons_144 : decode cX7_addPersons 144 = .ok (.ireturn, 1) := by decide +kernel
theorem dX7_write_0 : decode cX7_write 0 = .ok (.aload_n 0, 1) := by decide +kernel
theorem dX7_write_1 : decode cX7_write 1 = .ok (.iload_n 1, 1) := by decide +kernel
theorem dX7_write_2 : decode cX7_write 2 = .ok (.invokevirtual 45, 3) := by decide +kernel
theorem dX7_write_5 : decode cX7_write 5 = .ok (.ifCond .eq 12, 3) := by decide +kernel
theorem dX7_write_8 : decode cX7_write 8 = .ok (.iload_n 2, 1) := by decide +kernel
theorem dX7_write_9 : decode cX7_write 9 = .ok (.iconst 0, 1) := by decide +kernel
theorem dX7_write_10 : decode cX7_write 10 = .ok (.iconst 5, 1) := by decide +kernel
theorem dX7_write_11 : decode cX7_write 11 = .ok (.invokestatic 41, 3) := by decide +kernel
theorem dX7_write_14 : decode cX7_write 14 = .ok (.ifCond .ne 5, 3) := by decide +kernel
theorem dX7_write_17 : decode cX7_write 17 = .ok (.iconst (-1), 1) := by decide +kernel
theorem dX7_write_18 : decode cX7_write 18 = .ok (.ireturn, 1) := by decide +kernel
theorem dX7_write_19 : decode cX7_write 19 = .ok (.iload_n 3, 1) := by decide +kernel
theorem dX7_write_20 : decode cX7_write 20 = .ok (.iconst 1, 1) := by decide +kernel
theorem dX7_write_21 : decode cX7_write 21 = .ok (.bipush 9, 2) := by decide +kernel
theorem dX7_write_23 : decode cX7_write 23 = .ok (.invokestatic 41, 3) := by decide +kernel
theorem dX7_write_26 : decode cX7_write 26 = .ok (.ifCond .ne 6, 3) := by decide +kernel
theorem dX7_write_29 : decode cX7_write 29 = .ok (.bipush (-2), 2) := by decide +kernel
theorem dX7_write_31 : decode cX7_write 31 = .ok (.ireturn, 1) := by decide +kernel
theorem dX7_write_32 : decode cX7_write 32 = .ok (.aload_n 0, 1) := by decide +kernel
theorem dX7_write_33 : decode cX7_write 33 = .ok (.iload_n 1, 1) := by decide +kernel
theorem dX7_write_34 : decode cX7_write 34 = .ok (.iconst 2, 1) := by decide +kernel
theorem dX7_write_35 : decode cX7_write 35 = .ok (.invokevirtual 49, 3) := by decide +kernel
theorem dX7_write_38 : decode cX7_write 38 = .ok (.iconst 3, 1) := by decide +kernel
theorem dX7_write_39 : decode cX7_write 39 = .ok (.if_icmp .ne 6, 3) := by decide +kernel
theorem dX7_write_42 : decode cX7_write 42 = .ok (.bipush (-4), 2) := by decide +kernel
theorem dX7_write_44 : decode cX7_write 44 = .ok (.ireturn, 1) := by decide +kernel
theorem dX7_write_45 : decode cX7_write 45 = .ok (.aload_n 0, 1) := by decide +kernel
theorem dX7_write_46 : decode cX7_write 46 = .ok (.iload_n 1, 1) := by decide +kernel
theorem dX7_write_47 : decode cX7_write 47 = .ok (.iconst 3, 1) := by decide +kernel
theorem dX7_write_48 : decode cX7_write 48 = .ok (.invokevirtual 49, 3) := by decide +kernel
theorem dX7_write_51 : decode cX7_write 51 = .ok (.bipush 8, 2) := by decide +kernel
theorem dX7_write_53 : decode cX7_write 53 = .ok (.if_icmp .eq 13, 3) := by decide +kernel
theorem dX7_write_56 : decode cX7_write 56 = .ok (.iload_n 3, 1) := by decide +kernel
theorem dX7_write_57 : decode cX7_write 57 = .ok (.aload_n 0, 1) := by decide +kernel
theorem dX7_write_58 : decode cX7_write 58 = .ok (.getfield 7, 3) := by decide +kernel
theorem dX7_write_61 : decode cX7_write 61 = .ok (.iconst 2, 1) := by decide +kernel
theorem dX7_write_62 : decode cX7_write 62 = .ok (.iaload, 1) := by decide +kernel
theorem dX7_write_63 : decode cX7_write 63 = .ok (.if_icmp .le 6, 3) := by decide +kernel
theorem dX7_write_66 : decode cX7_write 66 = .ok (.bipush (-3), 2) := by decide +kernel
theorem dX7_write_68 : decode cX7_write 68 = .ok (.ireturn, 1) := by decide +kernel
theorem dX7_write_69 : decode cX7_write 69 = .ok (.aload_n 0, 1) := by decide +kernel
theorem dX7_write_70 : decode cX7_write 70 = .ok (.invokevirtual 71, 3) := by decide +kernel
theorem dX7_write_73 : decode cX7_write 73 = .ok (.aload_n 0, 1) := by decide +kernel
theorem dX7_write_74 : decode cX7_write 74 = .ok (.iload_n 1, 1) := by decide +kernel
theorem dX7_write_75 : decode cX7_write 75 = .ok (.iload_n 2, 1) := by decide +kernel
theorem dX7_write_76 : decode cX7_write 76 = .ok (.iload_n 3, 1) := by decide +kernel
theorem dX7_write_77 : decode cX7_write 77 = .ok (.invokevirtual 112, 3) := by decide +kernel
theorem dX7_write_80 : decode cX7_write 80 = .ok (.aload_n 0, 1) := by decide +kernel
theorem dX7_write_81 : decode cX7_write 81 = .ok (.getfield 7, 3) := by decide +kernel
theorem dX7_write_84 : decode cX7_write 84 = .ok (.iconst 2, 1) := by decide +kernel
theorem dX7_write_85 : decode cX7_write 85 = .ok (.dup2, 1) := by decide +kernel
theorem dX7_write_86 : decode cX7_write 86 = .ok (.iaload, 1) := by decide +kernel
theorem dX7_write_87 : decode cX7_write 87 = .ok (.iload_n 3, 1) := by decide +kernel
theorem dX7_write_88 : decode cX7_write 88 = .ok (.isub, 1) := by decide +kernel
theorem dX7_write_89 : decode cX7_write 89 = .ok (.iastore, 1) := by decide +kernel
theorem dX7_write_90 : decode cX7_write 90 = .ok (.aload_n 0, 1) := by decide +kernel
theorem dX7_write_91 : decode cX7_write 91 = .ok (.iload_n 1, 1) := by decide +kernel
theorem dX7_write_92 : decode cX7_write 92 = .ok (.iconst 3, 1) := by decide +kernel
theorem dX7_write_93 : decode cX7_write 93 = .ok (.invokevirtual 49, 3) := by decide +kernel
theorem dX7_write_96 : decode cX7_write 96 = .ok (.iconst 1, 1) := by decide +kernel
theorem dX7_write_97 : decode cX7_write 97 = .ok (.isub, 1) := by decide +kernel
theorem dX7_write_98 : decode cX7_write 98 = .ok (.ireturn, 1) := by decide +kernel
theorem dX7_check_0 : decode cX7_check 0 = .ok (.aload_n 0, 1) := by decide +kernel
theorem dX7_check_1 : decode cX7_check 1 = .ok (.iload_n 1, 1) := by decide +kernel
theorem dX7_check_2 : decode cX7_check 2 = .ok (.iload_n 2, 1) := by decide +kernel
theorem dX7_check_3 : decode cX7_check 3 = .ok (.invokevirtual 116, 3) := by decide +kernel
theorem dX7_check_6 : decode cX7_check 6 = .ok (.ifCond .ne 5, 3) := by decide +kernel
theorem dX7_check_9 : decode cX7_check 9 = .ok (.iconst (-1), 1) := by decide +kernel
theorem dX7_check_10 : decode cX7_check 10 = .ok (.ireturn, 1) := by decide +kernel
theorem dX7_check_11 : decode cX7_check 11 = .ok (.aload_n 0, 1) := by decide +kernel
theorem dX7_check_12 : decode cX7_check 12 = .ok (.iload_n 1, 1) := by decide +kernel
theorem dX7_check_13 : decode cX7_check 13 = .ok (.iconst 2, 1) := by decide +kernel
theorem dX7_check_14 : decode cX7_check 14 = .ok (.invokevirtual 49, 3) := by decide +kernel
theorem dX7_check_17 : decode cX7_check 17 = .ok (.iconst 3, 1) := by decide +kernel
theorem dX7_check_18 : decode cX7_check 18 = .ok (.if_icmp .ne 6, 3) := by decide +kernel
theorem dX7_check_21 : decode cX7_check 21 = .ok (.bipush (-4), 2) := by decide +kernel
theorem dX7_check_23 : decode cX7_check 23 = .ok (.ireturn, 1) := by decide +kernel
theorem dX7_check_24 : decode cX7_check 24 = .ok (.aload_n 0, 1) := by decide +kernel
theorem dX7_check_25 : decode cX7_check 25 = .ok (.getfield 7, 3) := by decide +kernel
theorem dX7_check_28 : decode cX7_check 28 = .ok (.iconst 2, 1) := by decide +kernel
theorem dX7_check_29 : decode cX7_check 29 = .ok (.iaload, 1) := by decide +kernel
theorem dX7_check_30 : decode cX7_check 30 = .ok (.ifCond .ne 6, 3) := by decide +kernel
theorem dX7_check_33 : decode cX7_check 33 = .ok (.bipush (-3), 2) := by decide +kernel
theorem dX7_check_35 : decode cX7_check 35 = .ok (.ireturn, 1) := by decide +kernel
theorem dX7_check_36 : decode cX7_check 36 = .ok (.aload_n 0, 1) := by decide +kernel
theorem dX7_check_37 : decode cX7_check 37 = .ok (.getfield 7, 3) := by decide +kernel
theorem dX7_check_40 : decode cX7_check 40 = .ok (.iload_n 1, 1) := by decide +kernel
theorem dX7_check_41 : decode cX7_check 41 = .ok (.iload_n 2, 1) := by decide +kernel
theorem dX7_check_42 : decode cX7_check 42 = .ok (.invokestatic 53, 3) := by decide +kernel
theorem dX7_check_45 : decode cX7_check 45 = .ok (.iconst 2, 1) := by decide +kernel
theorem dX7_check_46 : decode cX7_check 46 = .ok (.iadd, 1) := by decide +kernel
theorem dX7_check_47 : decode cX7_check 47 = .ok (.iaload, 1) := by decide +kernel
theorem dX7_check_48 : decode cX7_check 48 = .ok (.aload_n 0, 1) := by decide +kernel
theorem dX7_check_49 : decode cX7_check 49 = .ok (.getfield 7, 3) := by decide +kernel
theorem dX7_check_52 : decode cX7_check 52 = .ok (.iconst 0, 1) := by decide +kernel
theorem dX7_check_53 : decode cX7_check 53 = .ok (.iaload, 1) := by decide +kernel
theorem dX7_check_54 : decode cX7_check 54 = .ok (.if_icmp .ne 6, 3) := by decide +kernel
theorem dX7_check_57 : decode cX7_check 57 = .ok (.bipush (-5), 2) := by decide +kernel
theorem dX7_check_59 : decode cX7_check 59 = .ok (.ireturn, 1) := by decide +kernel
theorem dX7_check_60 : decode cX7_check 60 = .ok (.aload_n 0, 1) := by decide +kernel
theorem dX7_check_61 : decode cX7_check 61 = .ok (.invokevirtual 71, 3) := by decide +kernel
theorem dX7_check_64 : decode cX7_check 64 = .ok (.aload_n 0, 1) := by decide +kernel
theorem dX7_check_65 : decode cX7_check 65 = .ok (.getfield 7, 3) := by decide +kernel
theorem dX7_check_68 : decode cX7_check 68 = .ok (.iload_n 1, 1) := by decide +kernel
theorem dX7_check_69 : decode cX7_check 69 = .ok (.iload_n 2, 1) := by decide +kernel
theorem dX7_check_70 : decode cX7_check 70 = .ok (.invokestatic 53, 3) := by decide +kernel
theorem dX7_check_73 : decode cX7_check 73 = .ok (.iconst 2, 1) := by decide +kernel
theorem dX7_check_74 : decode cX7_check 74 = .ok (.iadd, 1) := by decide +kernel
theorem dX7_check_75 : decode cX7_check 75 = .ok (.aload_n 0, 1) := by decide +kernel
theorem dX7_check_76 : decode cX7_check 76 = .ok (.getfield 7, 3) := by decide +kernel
theorem dX7_check_79 : decode cX7_check 79 = .ok (.iconst 0, 1) := by decide +kernel
theorem dX7_check_80 : decode cX7_check 80 = .ok (.iaload, 1) := by decide +kernel
theorem dX7_check_81 : decode cX7_check 81 = .ok (.iastore, 1) := by decide +kernel
theorem dX7_check_82 : decode cX7_check 82 = .ok (.aload_n 0, 1) := by decide +kernel
theorem dX7_check_83 : decode cX7_check 83 = .ok (.getfield 7, 3) := by decide +kernel
theorem dX7_check_86 : decode cX7_check 86 = .ok (.iconst 2, 1) := by decide +kernel
theorem dX7_check_87 : decode cX7_check 87 = .ok (.dup2, 1) := by decide +kernel
theorem dX7_check_88 : decode cX7_check 88 = .ok (.iaload, 1) := by decide +kernel
theorem dX7_check_89 : decode cX7_check 89 = .ok (.iconst 1, 1) := by decide +kernel
theorem dX7_check_90 : decode cX7_check 90 = .ok (.isub, 1) := by decide +kernel
theorem dX7_check_91 : decode cX7_check 91 = .ok (.iastore, 1) := by decide +kernel
theorem dX7_check_92 : decode cX7_check 92 = .ok (.aload_n 0, 1) := by decide +kernel
theorem dX7_check_93 : decode cX7_check 93 = .ok (.getfield 7, 3) := by decide +kernel
theorem dX7_check_96 : decode cX7_check 96 = .ok (.iconst 2, 1) := by decide +kernel
theorem dX7_check_97 : decode cX7_check 97 = .ok (.iaload, 1) := by decide +kernel
theorem dX7_check_98 : decode cX7_check 98 = .ok (.ireturn, 1) := by decide +kernel
theorem dX7_strike_0 : decode cX7_strike 0 = .ok (.aload_n 0, 1) := by decide +kernel
theorem dX7_strike_1 : decode cX7_strike 1 = .ok (.iload_n 1, 1) := by decide +kernel
theorem dX7_strike_2 : decode cX7_strike 2 = .ok (.iload_n 2, 1) := by decide +kernel
theorem dX7_strike_3 : decode cX7_strike 3 = .ok (.invokevirtual 116, 3) := by decide +kernel
theorem dX7_strike_6 : decode cX7_strike 6 = .ok (.ifCond .ne 5, 3) := by decide +kernel
theorem dX7_strike_9 : decode cX7_strike 9 = .ok (.iconst (-1), 1) := by decide +kernel
theorem dX7_strike_10 : decode cX7_strike 10 = .ok (.ireturn, 1) := by decide +kernel
theorem dX7_strike_11 : decode cX7_strike 11 = .ok (.aload_n 0, 1) := by decide +kernel
theorem dX7_strike_12 : decode cX7_strike 12 = .ok (.iload_n 1, 1) := by decide +kernel
theorem dX7_strike_13 : decode cX7_strike 13 = .ok (.iconst 2, 1) := by decide +kernel
theorem dX7_strike_14 : decode cX7_strike 14 = .ok (.invokevirtual 49, 3) := by decide +kernel
theorem dX7_strike_17 : decode cX7_strike 17 = .ok (.iconst 3, 1) := by decide +kernel
theorem dX7_strike_18 : decode cX7_strike 18 = .ok (.if_icmp .ne 6, 3) := by decide +kernel
theorem dX7_strike_21 : decode cX7_strike 21 = .ok (.bipush (-4), 2) := by decide +kernel
theorem dX7_strike_23 : decode cX7_strike 23 = .ok (.ireturn, 1) := by decide +kernel
theorem dX7_strike_24 : decode cX7_strike 24 = .ok (.aload_n 0, 1) := by decide +kernel
theorem dX7_strike_25 : decode cX7_strike 25 = .ok (.invokevirtual 71, 3) := by decide +kernel
theorem dX7_strike_28 : decode cX7_strike 28 = .ok (.aload_n 0, 1) := by decide +kernel
theorem dX7_strike_29 : decode cX7_strike 29 = .ok (.getfield 7, 3) := by decide +kernel
theorem dX7_strike_32 : decode cX7_strike 32 = .ok (.iload_n 1, 1) := by decide +kernel
theorem dX7_strike_33 : decode cX7_strike 33 = .ok (.invokestatic 37, 3) := by decide +kernel
theorem dX7_strike_36 : decode cX7_strike 36 = .ok (.iconst 3, 1) := by decide +kernel
theorem dX7_strike_37 : decode cX7_strike 37 = .ok (.iadd, 1) := by decide +kernel
theorem dX7_strike_38 : decode cX7_strike 38 = .ok (.dup2, 1) := by decide +kernel
theorem dX7_strike_39 : decode cX7_strike 39 = .ok (.iaload, 1) := by decide +kernel
theorem dX7_strike_40 : decode cX7_strike 40 = .ok (.iconst 1, 1) := by decide +kernel
theorem dX7_strike_41 : decode cX7_strike 41 = .ok (.isub, 1) := by decide +kernel
theorem dX7_strike_42 : decode cX7_strike 42 = .ok (.iastore, 1) := by decide +kernel
theorem dX7_strike_43 : decode cX7_strike 43 = .ok (.iload_n 1, 1) := by decide +kernel
theorem dX7_strike_44 : decode cX7_strike 44 = .ok (.iload_n 2, 1) := by decide +kernel
theorem dX7_strike_45 : decode cX7_strike 45 = .ok (.invokestatic 53, 3) := by decide +kernel
theorem dX7_strike_48 : decode cX7_strike 48 = .ok (.istore_n 3, 1) := by decide +kernel
theorem dX7_strike_49 : decode cX7_strike 49 = .ok (.iload_n 3, 1) := by decide +kernel
theorem dX7_strike_50 : decode cX7_strike 50 = .ok (.iload_n 1, 1) := by decide +kernel
theorem dX7_strike_51 : decode cX7_strike 51 = .ok (.aload_n 0, 1) := by decide +kernel
theorem dX7_strike_52 : decode cX7_strike 52 = .ok (.iload_n 1, 1) := by decide +kernel
theorem dX7_strike_53 : decode cX7_strike 53 = .ok (.iconst 3, 1) := by decide +kernel
theorem dX7_strike_54 : decode cX7_strike 54 = .ok (.invokevirtual 49, 3) := by decide +kernel
theorem dX7_strike_57 : decode cX7_strike 57 = .ok (.invokestatic 53, 3) := by decide +kernel
theorem dX7_strike_60 : decode cX7_strike 60 = .ok (.if_icmp .ge 23, 3) := by decide +kernel
theorem dX7_strike_63 : decode cX7_strike 63 = .ok (.aload_n 0, 1) := by decide +kernel
theorem dX7_strike_64 : decode cX7_strike 64 = .ok (.getfield 7, 3) := by decide +kernel
theorem dX7_strike_67 : decode cX7_strike 67 = .ok (.iload_n 3, 1) := by decide +kernel
theorem dX7_strike_68 : decode cX7_strike 68 = .ok (.aload_n 0, 1) := by decide +kernel
theorem dX7_strike_69 : decode cX7_strike 69 = .ok (.getfield 7, 3) := by decide +kernel
theorem dX7_strike_72 : decode cX7_strike 72 = .ok (.iload_n 3, 1) := by decide +kernel
theorem dX7_strike_73 : decode cX7_strike 73 = .ok (.iconst 3, 1) := by decide +kernel
theorem dX7_strike_74 : decode cX7_strike 74 = .ok (.iadd, 1) := by decide +kernel
theorem dX7_strike_75 : decode cX7_strike 75 = .ok (.iaload, 1) := by decide +kernel
theorem dX7_strike_76 : decode cX7_strike 76 = .ok (.iastore, 1) := by decide +kernel
theorem dX7_strike_77 : decode cX7_strike 77 = .ok (.iinc 3 1, 3) := by decide +kernel
theorem dX7_strike_80 : decode cX7_strike 80 = .ok (.goto (-31), 3) := by decide +kernel
theorem dX7_strike_83 : decode cX7_strike 83 = .ok (.aload_n 0, 1) := by decide +kernel
theorem dX7_strike_84 : decode cX7_strike 84 = .ok (.iload_n 1, 1) := by decide +kernel
theorem dX7_strike_85 : decode cX7_strike 85 = .ok (.iconst 3, 1) := by decide +kernel
theorem dX7_strike_86 : decode cX7_strike 86 = .ok (.invokevirtual 49, 3) := by decide +kernel
theorem dX7_strike_89 : decode cX7_strike 89 = .ok (.ireturn, 1) := by decide +kernel
theorem dX7_due_0 : decode cX7_due 0 = .ok (.bipush (-5), 2) := by decide +kernel
theorem dX7_due_2 : decode cX7_due 2 = .ok (.istore_n 2, 1) := by decide +kernel
theorem dX7_due_3 : decode cX7_due 3 = .ok (.aload_n 0, 1) := by decide +kernel
theorem dX7_due_4 : decode cX7_due 4 = .ok (.iload_n 1, 1) := by decide +kernel
theorem dX7_due_5 : decode cX7_due 5 = .ok (.iconst 3, 1) := by decide +kernel
theorem dX7_due_6 : decode cX7_due 6 = .ok (.invokevirtual 49, 3) := by decide +kernel
theorem dX7_due_9 : decode cX7_due 9 = .ok (.iconst 1, 1) := by decide +kernel
theorem dX7_due_10 : decode cX7_due 10 = .ok (.isub, 1) := by decide +kernel
theorem dX7_due_11 : decode cX7_due 11 = .ok (.istore_n 3, 1) := by decide +kernel
theorem dX7_due_12 : decode cX7_due 12 = .ok (.iload_n 3, 1) := by decide +kernel
theorem dX7_due_13 : decode cX7_due 13 = .ok (.ifCond .lt 51, 3) := by decide +kernel
theorem dX7_due_16 : decode cX7_due 16 = .ok (.aload_n 0, 1) := by decide +kernel
theorem dX7_due_17 : decode cX7_due 17 = .ok (.getfield 7, 3) := by decide +kernel
theorem dX7_due_20 : decode cX7_due 20 = .ok (.iload_n 1, 1) := by decide +kernel
theorem dX7_due_21 : decode cX7_due 21 = .ok (.iload_n 3, 1) := by decide +kernel
theorem dX7_due_22 : decode cX7_due 22 = .ok (.invokestatic 53, 3) := by decide +kernel
theorem dX7_due_25 : decode cX7_due 25 = .ok (.iconst 2, 1) := by decide +kernel
theorem dX7_due_26 : decode cX7_due 26 = .ok (.iadd, 1) := by decide +kernel
theorem dX7_due_27 : decode cX7_due 27 = .ok (.iaload, 1) := by decide +kernel
theorem dX7_due_28 : decode cX7_due 28 = .ok (.aload_n 0, 1) := by decide +kernel
theorem dX7_due_29 : decode cX7_due 29 = .ok (.getfield 7, 3) := by decide +kernel
theorem dX7_due_32 : decode cX7_due 32 = .ok (.iconst 0, 1) := by decide +kernel
theorem dX7_due_33 : decode cX7_due 33 = .ok (.iaload, 1) := by decide +kernel
theorem dX7_due_34 : decode cX7_due 34 = .ok (.if_icmp .eq 22, 3) := by decide +kernel
theorem dX7_due_37 : decode cX7_due 37 = .ok (.aload_n 0, 1) := by decide +kernel
theorem dX7_due_38 : decode cX7_due 38 = .ok (.iload_n 1, 1) := by decide +kernel
theorem dX7_due_39 : decode cX7_due 39 = .ok (.iload_n 3, 1) := by decide +kernel
theorem dX7_due_40 : decode cX7_due 40 = .ok (.aload_n 0, 1) := by decide +kernel
theorem dX7_due_41 : decode cX7_due 41 = .ok (.getfield 7, 3) := by decide +kernel
theorem dX7_due_44 : decode cX7_due 44 = .ok (.iconst 0, 1) := by decide +kernel
theorem dX7_due_45 : decode cX7_due 45 = .ok (.iaload, 1) := by decide +kernel
theorem dX7_due_46 : decode cX7_due 46 = .ok (.invokevirtual 62, 3) := by decide +kernel
theorem dX7_due_49 : decode cX7_due 49 = .ok (.ifCond .eq 7, 3) := by decide +kernel
theorem dX7_due_52 : decode cX7_due 52 = .ok (.iload_n 3, 1) := by decide +kernel
theorem dX7_due_53 : decode cX7_due 53 = .ok (.goto 4, 3) := by decide +kernel
theorem dX7_due_56 : decode cX7_due 56 = .ok (.iload_n 2, 1) := by decide +kernel
theorem dX7_due_57 : decode cX7_due 57 = .ok (.istore_n 2, 1) := by decide +kernel
theorem dX7_due_58 : decode cX7_due 58 = .ok (.iinc 3 (-1), 3) := by decide +kernel
theorem dX7_due_61 : decode cX7_due 61 = .ok (.goto (-49), 3) := by decide +kernel
theorem dX7_due_64 : decode cX7_due 64 = .ok (.iload_n 2, 1) := by decide +kernel
theorem dX7_due_65 : decode cX7_due 65 = .ok (.ireturn, 1) := by decide +kernel
theorem dX7_mostUrgent_0 : decode cX7_mostUrgent 0 = .ok (.bipush (-5), 2) := by decide +kernel
theorem dX7_mostUrgent_2 : decode cX7_mostUrgent 2 = .ok (.istore_n 1, 1) := by decide +kernel
theorem dX7_mostUrgent_3 : decode cX7_mostUrgent 3 = .ok (.iconst 0, 1) := by decide +kernel
theorem dX7_mostUrgent_4 : decode cX7_mostUrgent 4 = .ok (.istore_n 2, 1) := by decide +kernel
theorem dX7_mostUrgent_5 : decode cX7_mostUrgent 5 = .ok (.iload_n 2, 1) := by decide +kernel
theorem dX7_mostUrgent_6 : decode cX7_mostUrgent 6 = .ok (.aload_n 0, 1) := by decide +kernel
theorem dX7_mostUrgent_7 : decode cX7_mostUrgent 7 = .ok (.getfield 7, 3) := by decide +kernel
theorem dX7_mostUrgent_10 : decode cX7_mostUrgent 10 = .ok (.iconst 1, 1) := by decide +kernel
theorem dX7_mostUrgent_11 : decode cX7_mostUrgent 11 = .ok (.iaload, 1) := by decide +kernel
theorem dX7_mostUrgent_12 : decode cX7_mostUrgent 12 = .ok (.if_icmp .ge 63, 3) := by decide +kernel
theorem dX7_mostUrgent_15 : decode cX7_mostUrgent 15 = .ok (.aload_n 0, 1) := by decide +kernel
theorem dX7_mostUrgent_16 : decode cX7_mostUrgent 16 = .ok (.iload_n 2, 1) := by decide +kernel
theorem dX7_mostUrgent_17 : decode cX7_mostUrgent 17 = .ok (.iconst 2, 1) := by decide +kernel
theorem dX7_mostUrgent_18 : decode cX7_mostUrgent 18 = .ok (.invokevirtual 49, 3) := by decide +kernel
theorem dX7_mostUrgent_21 : decode cX7_mostUrgent 21 = .ok (.ifCond .ne 17, 3) := by decide +kernel
theorem dX7_mostUrgent_24 : decode cX7_mostUrgent 24 = .ok (.aload_n 0, 1) := by decide +kernel
theorem dX7_mostUrgent_25 : decode cX7_mostUrgent 25 = .ok (.iload_n 2, 1) := by decide +kernel
theorem dX7_mostUrgent_26 : decode cX7_mostUrgent 26 = .ok (.invokevirtual 120, 3) := by decide +kernel
theorem dX7_mostUrgent_29 : decode cX7_mostUrgent 29 = .ok (.bipush (-5), 2) := by decide +kernel
theorem dX7_mostUrgent_31 : decode cX7_mostUrgent 31 = .ok (.if_icmp .eq 7, 3) := by decide +kernel
theorem dX7_mostUrgent_34 : decode cX7_mostUrgent 34 = .ok (.iconst 1, 1) := by decide +kernel
theorem dX7_mostUrgent_35 : decode cX7_mostUrgent 35 = .ok (.goto 4, 3) := by decide +kernel
theorem dX7_mostUrgent_38 : decode cX7_mostUrgent 38 = .ok (.iconst 0, 1) := by decide +kernel
theorem dX7_mostUrgent_39 : decode cX7_mostUrgent 39 = .ok (.istore_n 3, 1) := by decide +kernel
theorem dX7_mostUrgent_40 : decode cX7_mostUrgent 40 = .ok (.iload_n 3, 1) := by decide +kernel
theorem dX7_mostUrgent_41 : decode cX7_mostUrgent 41 = .ok (.ifCond .eq 26, 3) := by decide +kernel
theorem dX7_mostUrgent_44 : decode cX7_mostUrgent 44 = .ok (.iload_n 1, 1) := by decide +kernel
theorem dX7_mostUrgent_45 : decode cX7_mostUrgent 45 = .ok (.bipush (-5), 2) := by decide +kernel
theorem dX7_mostUrgent_47 : decode cX7_mostUrgent 47 = .ok (.if_icmp .eq 16, 3) := by decide +kernel
theorem dX7_mostUrgent_50 : decode cX7_mostUrgent 50 = .ok (.aload_n 0, 1) := by decide +kernel
theorem dX7_mostUrgent_51 : decode cX7_mostUrgent 51 = .ok (.iload_n 2, 1) := by decide +kernel
theorem dX7_mostUrgent_52 : decode cX7_mostUrgent 52 = .ok (.invokevirtual 123, 3) := by decide +kernel
theorem dX7_mostUrgent_55 : decode cX7_mostUrgent 55 = .ok (.aload_n 0, 1) := by decide +kernel
theorem dX7_mostUrgent_56 : decode cX7_mostUrgent 56 = .ok (.iload_n 1, 1) := by decide +kernel
theorem dX7_mostUrgent_57 : decode cX7_mostUrgent 57 = .ok (.invokevirtual 123, 3) := by decide +kernel
theorem dX7_mostUrgent_60 : decode cX7_mostUrgent 60 = .ok (.if_icmp .le 7, 3) := by decide +kernel
theorem dX7_mostUrgent_63 : decode cX7_mostUrgent 63 = .ok (.iload_n 2, 1) := by decide +kernel
theorem dX7_mostUrgent_64 : decode cX7_mostUrgent 64 = .ok (.goto 4, 3) := by decide +kernel
theorem dX7_mostUrgent_67 : decode cX7_mostUrgent 67 = .ok (.iload_n 1, 1) := by decide +kernel
theorem dX7_mostUrgent_68 : decode cX7_mostUrgent 68 = .ok (.istore_n 1, 1) := by decide +kernel
theorem dX7_mostUrgent_69 : decode cX7_mostUrgent 69 = .ok (.iinc 2 1, 3) := by decide +kernel
theorem dX7_mostUrgent_72 : decode cX7_mostUrgent 72 = .ok (.goto (-67), 3) := by decide +kernel
theorem dX7_mostUrgent_75 : decode cX7_mostUrgent 75 = .ok (.iload_n 1, 1) := by decide +kernel
theorem dX7_mostUrgent_76 : decode cX7_mostUrgent 76 = .ok (.ireturn, 1) := by decide +kernel
theorem dX7_checkUrgent_0 : decode cX7_checkUrgent 0 = .ok (.aload_n 0, 1) := by decide +kernel
theorem dX7_checkUrgent_1 : decode cX7_checkUrgent 1 = .ok (.getfield 7, 3) := by decide +kernel
theorem dX7_checkUrgent_4 : decode cX7_checkUrgent 4 = .ok (.iconst 2, 1) := by decide +kernel
theorem dX7_checkUrgent_5 : decode cX7_checkUrgent 5 = .ok (.iaload, 1) := by decide +kernel
theorem dX7_checkUrgent_6 : decode cX7_checkUrgent 6 = .ok (.ifCond .eq 12, 3) := by decide +kernel
theorem dX7_checkUrgent_9 : decode cX7_checkUrgent 9 = .ok (.aload_n 0, 1) := by decide +kernel
theorem dX7_checkUrgent_10 : decode cX7_checkUrgent 10 = .ok (.invokevirtual 126, 3) := by decide +kernel
theorem dX7_checkUrgent_13 : decode cX7_checkUrgent 13 = .ok (.bipush (-5), 2) := by decide +kernel
theorem dX7_checkUrgent_15 : decode cX7_checkUrgent 15 = .ok (.if_icmp .ne 6, 3) := by decide +kernel
theorem dX7_checkUrgent_18 : decode cX7_checkUrgent 18 = .ok (.bipush (-5), 2) := by decide +kernel
theorem dX7_checkUrgent_20 : decode cX7_checkUrgent 20 = .ok (.ireturn, 1) := by decide +kernel
theorem dX7_checkUrgent_21 : decode cX7_checkUrgent 21 = .ok (.aload_n 0, 1) := by decide +kernel
theorem dX7_checkUrgent_22 : decode cX7_checkUrgent 22 = .ok (.invokevirtual 71, 3) := by decide +kernel
theorem dX7_checkUrgent_25 : decode cX7_checkUrgent 25 = .ok (.iconst 0, 1) := by decide +kernel
theorem dX7_checkUrgent_26 : decode cX7_checkUrgent 26 = .ok (.istore_n 1, 1) := by decide +kernel
theorem dX7_checkUrgent_27 : decode cX7_checkUrgent 27 = .ok (.aload_n 0, 1) := by decide +kernel
theorem dX7_checkUrgent_28 : decode cX7_checkUrgent 28 = .ok (.invokevirtual 126, 3) := by decide +kernel
theorem dX7_checkUrgent_31 : decode cX7_checkUrgent 31 = .ok (.istore_n 2, 1) := by decide +kernel
theorem dX7_checkUrgent_32 : decode cX7_checkUrgent 32 = .ok (.iload_n 2, 1) := by decide +kernel
theorem dX7_checkUrgent_33 : decode cX7_checkUrgent 33 = .ok (.bipush (-5), 2) := by decide +kernel
theorem dX7_checkUrgent_35 : decode cX7_checkUrgent 35 = .ok (.if_icmp .eq 55, 3) := by decide +kernel
theorem dX7_checkUrgent_38 : decode cX7_checkUrgent 38 = .ok (.aload_n 0, 1) := by decide +kernel
theorem dX7_checkUrgent_39 : decode cX7_checkUrgent 39 = .ok (.getfield 7, 3) := by decide +kernel
theorem dX7_checkUrgent_42 : decode cX7_checkUrgent 42 = .ok (.iconst 2, 1) := by decide +kernel
theorem dX7_checkUrgent_43 : decode cX7_checkUrgent 43 = .ok (.iaload, 1) := by decide +kernel
theorem dX7_checkUrgent_44 : decode cX7_checkUrgent 44 = .ok (.ifCond .le 46, 3) := by decide +kernel
theorem dX7_checkUrgent_47 : decode cX7_checkUrgent 47 = .ok (.aload_n 0, 1) := by decide +kernel
theorem dX7_checkUrgent_48 : decode cX7_checkUrgent 48 = .ok (.getfield 7, 3) := by decide +kernel
theorem dX7_checkUrgent_51 : decode cX7_checkUrgent 51 = .ok (.iload_n 2, 1) := by decide +kernel
theorem dX7_checkUrgent_52 : decode cX7_checkUrgent 52 = .ok (.aload_n 0, 1) := by decide +kernel
theorem dX7_checkUrgent_53 : decode cX7_checkUrgent 53 = .ok (.iload_n 2, 1) := by decide +kernel
theorem dX7_checkUrgent_54 : decode cX7_checkUrgent 54 = .ok (.invokevirtual 120, 3) := by decide +kernel
theorem dX7_checkUrgent_57 : decode cX7_checkUrgent 57 = .ok (.invokestatic 53, 3) := by decide +kernel
theorem dX7_checkUrgent_60 : decode cX7_checkUrgent 60 = .ok (.iconst 2, 1) := by decide +kernel
theorem dX7_checkUrgent_61 : decode cX7_checkUrgent 61 = .ok (.iadd, 1) := by decide +kernel
theorem dX7_checkUrgent_62 : decode cX7_checkUrgent 62 = .ok (.aload_n 0, 1) := by decide +kernel
theorem dX7_checkUrgent_63 : decode cX7_checkUrgent 63 = .ok (.getfield 7, 3) := by decide +kernel
theorem dX7_checkUrgent_66 : decode cX7_checkUrgent 66 = .ok (.iconst 0, 1) := by decide +kernel
theorem dX7_checkUrgent_67 : decode cX7_checkUrgent 67 = .ok (.iaload, 1) := by decide +kernel
theorem dX7_checkUrgent_68 : decode cX7_checkUrgent 68 = .ok (.iastore, 1) := by decide +kernel
theorem dX7_checkUrgent_69 : decode cX7_checkUrgent 69 = .ok (.aload_n 0, 1) := by decide +kernel
theorem dX7_checkUrgent_70 : decode cX7_checkUrgent 70 = .ok (.getfield 7, 3) := by decide +kernel
theorem dX7_checkUrgent_73 : decode cX7_checkUrgent 73 = .ok (.iconst 2, 1) := by decide +kernel
theorem dX7_checkUrgent_74 : decode cX7_checkUrgent 74 = .ok (.dup2, 1) := by decide +kernel
theorem dX7_checkUrgent_75 : decode cX7_checkUrgent 75 = .ok (.iaload, 1) := by decide +kernel
theorem dX7_checkUrgent_76 : decode cX7_checkUrgent 76 = .ok (.iconst 1, 1) := by decide +kernel
theorem dX7_checkUrgent_77 : decode cX7_checkUrgent 77 = .ok (.isub, 1) := by decide +kernel
theorem dX7_checkUrgent_78 : decode cX7_checkUrgent 78 = .ok (.iastore, 1) := by decide +kernel
theorem dX7_checkUrgent_79 : decode cX7_checkUrgent 79 = .ok (.iinc 1 1, 3) := by decide +kernel
theorem dX7_checkUrgent_82 : decode cX7_checkUrgent 82 = .ok (.aload_n 0, 1) := by decide +kernel
theorem dX7_checkUrgent_83 : decode cX7_checkUrgent 83 = .ok (.invokevirtual 126, 3) := by decide +kernel
theorem dX7_checkUrgent_86 : decode cX7_checkUrgent 86 = .ok (.istore_n 2, 1) := by decide +kernel
theorem dX7_checkUrgent_87 : decode cX7_checkUrgent 87 = .ok (.goto (-55), 3) := by decide +kernel
theorem dX7_checkUrgent_90 : decode cX7_checkUrgent 90 = .ok (.iload_n 1, 1) := by decide +kernel
theorem dX7_checkUrgent_91 : decode cX7_checkUrgent 91 = .ok (.ireturn, 1) := by decide +kernel
theorem dX7_trust_0 : decode cX7_trust 0 = .ok (.iload_n 1, 1) := by decide +kernel
theorem dX7_trust_1 : decode cX7_trust 1 = .ok (.iconst 0, 1) := by decide +kernel
theorem dX7_trust_2 : decode cX7_trust 2 = .ok (.iconst 5, 1) := by decide +kernel
theorem dX7_trust_3 : decode cX7_trust 3 = .ok (.invokestatic 41, 3) := by decide +kernel
theorem dX7_trust_6 : decode cX7_trust 6 = .ok (.ifCond .ne 5, 3) := by decide +kernel
theorem dX7_trust_9 : decode cX7_trust 9 = .ok (.iconst (-1), 1) := by decide +kernel
theorem dX7_trust_10 : decode cX7_trust 10 = .ok (.ireturn, 1) := by decide +kernel
theorem dX7_trust_11 : decode cX7_trust 11 = .ok (.iload_n 2, 1) := by decide +kernel
theorem dX7_trust_12 : decode cX7_trust 12 = .ok (.iconst 0, 1) := by decide +kernel
theorem dX7_trust_13 : decode cX7_trust 13 = .ok (.bipush 100, 2) := by decide +kernel
theorem dX7_trust_15 : decode cX7_trust 15 = .ok (.invokestatic 41, 3) := by decide +kernel
theorem dX7_trust_18 : decode cX7_trust 18 = .ok (.ifCond .ne 6, 3) := by decide +kernel
theorem dX7_trust_21 : decode cX7_trust 21 = .ok (.bipush (-2), 2) := by decide +kernel
theorem dX7_trust_23 : decode cX7_trust 23 = .ok (.ireturn, 1) := by decide +kernel
theorem dX7_trust_24 : decode cX7_trust 24 = .ok (.aload_n 0, 1) := by decide +kernel
theorem dX7_trust_25 : decode cX7_trust 25 = .ok (.getfield 7, 3) := by decide +kernel
theorem dX7_trust_28 : decode cX7_trust 28 = .ok (.bipush 9, 2) := by decide +kernel
theorem dX7_trust_30 : decode cX7_trust 30 = .ok (.iload_n 1, 1) := by decide +kernel
theorem dX7_trust_31 : decode cX7_trust 31 = .ok (.iadd, 1) := by decide +kernel
theorem dX7_trust_32 : decode cX7_trust 32 = .ok (.iaload, 1) := by decide +kernel
theorem dX7_trust_33 : decode cX7_trust 33 = .ok (.istore_n 3, 1) := by decide +kernel
theorem dX7_trust_34 : decode cX7_trust 34 = .ok (.iload_n 3, 1) := by decide +kernel
theorem dX7_trust_35 : decode cX7_trust 35 = .ok (.iload_n 2, 1) := by decide +kernel
theorem dX7_trust_36 : decode cX7_trust 36 = .ok (.if_icmp .ne 6, 3) := by decide +kernel
theorem dX7_trust_39 : decode cX7_trust 39 = .ok (.bipush (-5), 2) := by decide +kernel
theorem dX7_trust_41 : decode cX7_trust 41 = .ok (.ireturn, 1) := by decide +kernel
theorem dX7_trust_42 : decode cX7_trust 42 = .ok (.aload_n 0, 1) := by decide +kernel
theorem dX7_trust_43 : decode cX7_trust 43 = .ok (.invokevirtual 71, 3) := by decide +kernel
theorem dX7_trust_46 : decode cX7_trust 46 = .ok (.aload_n 0, 1) := by decide +kernel
theorem dX7_trust_47 : decode cX7_trust 47 = .ok (.getfield 7, 3) := by decide +kernel
theorem dX7_trust_50 : decode cX7_trust 50 = .ok (.bipush 9, 2) := by decide +kernel
theorem dX7_trust_52 : decode cX7_trust 52 = .ok (.iload_n 1, 1) := by decide +kernel
theorem dX7_trust_53 : decode cX7_trust 53 = .ok (.iadd, 1) := by decide +kernel
theorem dX7_trust_54 : decode cX7_trust 54 = .ok (.iload_n 2, 1) := by decide +kernel
theorem dX7_trust_55 : decode cX7_trust 55 = .ok (.iastore, 1) := by decide +kernel
theorem dX7_trust_56 : decode cX7_trust 56 = .ok (.iload_n 3, 1) := by decide +kernel
theorem dX7_trust_57 : decode cX7_trust 57 = .ok (.ireturn, 1) := by decide +kernel
theorem dX7_isSetting_0 : decode cX7_isSetting 0 = .ok (.iload_n 0, 1) := by decide +kernel
theorem dX7_isSetting_1 : decode cX7_isSetting 1 = .ok (.ifCond .ne 13, 3) := by decide +kernel
theorem dX7_isSetting_4 : decode cX7_isSetting 4 = .ok (.iload_n 1, 1) := by decide +kernel
theorem dX7_isSetting_5 : decode cX7_isSetting 5 = .ok (.iconst 1, 1) := by decide +kernel
theorem dX7_isSetting_6 : decode cX7_isSetting 6 = .ok (.bipush 24, 2) := by decide +kernel
theorem dX7_isSetting_8 : decode cX7_isSetting 8 = .ok (.invokestatic 41, 3) := by decide +kernel
theorem dX7_isSetting_11 : decode cX7_isSetting 11 = .ok (.goto 69, 3) := by decide +kernel
theorem dX7_isSetting_14 : decode cX7_isSetting 14 = .ok (.iload_n 0, 1) := by decide +kernel
theorem dX7_isSetting_15 : decode cX7_isSetting 15 = .ok (.iconst 1, 1) := by decide +kernel
theorem dX7_isSetting_16 : decode cX7_isSetting 16 = .ok (.if_icmp .ne 15, 3) := by decide +kernel
theorem dX7_isSetting_19 : decode cX7_isSetting 19 = .ok (.iload_n 1, 1) := by decide +kernel
theorem dX7_isSetting_20 : decode cX7_isSetting 20 = .ok (.bipush 10, 2) := by decide +kernel
theorem dX7_isSetting_22 : decode cX7_isSetting 22 = .ok (.sipush 200, 3) := by decide +kernel
theorem dX7_isSetting_25 : decode cX7_isSetting 25 = .ok (.invokestatic 41, 3) := by decide +kernel
theorem dX7_isSetting_28 : decode cX7_isSetting 28 = .ok (.goto 52, 3) := by decide +kernel
theorem dX7_isSetting_31 : decode cX7_isSetting 31 = .ok (.iload_n 0, 1) := by decide +kernel
theorem dX7_isSetting_32 : decode cX7_isSetting 32 = .ok (.iconst 2, 1) := by decide +kernel
theorem dX7_isSetting_33 : decode cX7_isSetting 33 = .ok (.if_icmp .ne 13, 3) := by decide +kernel
theorem dX7_isSetting_36 : decode cX7_isSetting 36 = .ok (.iload_n 1, 1) := by decide +kernel
theorem dX7_isSetting_37 : decode cX7_isSetting 37 = .ok (.iconst 0, 1) := by decide +kernel
theorem dX7_isSetting_38 : decode cX7_isSetting 38 = .ok (.bipush 100, 2) := by decide +kernel
theorem dX7_isSetting_40 : decode cX7_isSetting 40 = .ok (.invokestatic 41, 3) := by decide +kernel
theorem dX7_isSetting_43 : decode cX7_isSetting 43 = .ok (.goto 37, 3) := by decide +kernel
theorem dX7_isSetting_46 : decode cX7_isSetting 46 = .ok (.iload_n 0, 1) := by decide +kernel
theorem dX7_isSetting_47 : decode cX7_isSetting 47 = .ok (.iconst 3, 1) := by decide +kernel
theorem dX7_isSetting_48 : decode cX7_isSetting 48 = .ok (.if_icmp .ne 12, 3) := by decide +kernel
theorem dX7_isSetting_51 : decode cX7_isSetting 51 = .ok (.iload_n 1, 1) := by decide +kernel
theorem dX7_isSetting_52 : decode cX7_isSetting 52 = .ok (.iconst 1, 1) := by decide +kernel
theorem dX7_isSetting_53 : decode cX7_isSetting 53 = .ok (.iconst 3, 1) := by decide +kernel
theorem dX7_isSetting_54 : decode cX7_isSetting 54 = .ok (.invokestatic 41, 3) := by decide +kernel
theorem dX7_isSetting_57 : decode cX7_isSetting 57 = .ok (.goto 23, 3) := by decide +kernel
theorem dX7_isSetting_60 : decode cX7_isSetting 60 = .ok (.iload_n 0, 1) := by decide +kernel
theorem dX7_isSetting_61 : decode cX7_isSetting 61 = .ok (.iconst 4, 1) := by decide +kernel
theorem dX7_isSetting_62 : decode cX7_isSetting 62 = .ok (.if_icmp .ne 17, 3) := by decide +kernel
theorem dX7_isSetting_65 : decode cX7_isSetting 65 = .ok (.iload_n 1, 1) := by decide +kernel
theorem dX7_isSetting_66 : decode cX7_isSetting 66 = .ok (.iconst 1, 1) := by decide +kernel
theorem dX7_isSetting_67 : decode cX7_isSetting 67 = .ok (.bipush 9, 2) := by decide +kernel
theorem dX7_isSetting_69 : decode cX7_isSetting 69 = .ok (.invokestatic 41, 3) := by decide +kernel
theorem dX7_isSetting_72 : decode cX7_isSetting 72 = .ok (.ifCond .eq 7, 3) := by decide +kernel
theorem dX7_isSetting_75 : decode cX7_isSetting 75 = .ok (.iconst 1, 1) := by decide +kernel
theorem dX7_isSetting_76 : decode cX7_isSetting 76 = .ok (.goto 4, 3) := by decide +kernel
theorem dX7_isSetting_79 : decode cX7_isSetting 79 = .ok (.iconst 0, 1) := by decide +kernel
theorem dX7_isSetting_80 : decode cX7_isSetting 80 = .ok (.ireturn, 1) := by decide +kernel
theorem dX7_set_0 : decode cX7_set 0 = .ok (.iload_n 1, 1) := by decide +kernel
theorem dX7_set_1 : decode cX7_set 1 = .ok (.iload_n 2, 1) := by decide +kernel
theorem dX7_set_2 : decode cX7_set 2 = .ok (.invokestatic 129, 3) := by decide +kernel
theorem dX7_set_5 : decode cX7_set 5 = .ok (.ifCond .ne 6, 3) := by decide +kernel
theorem dX7_set_8 : decode cX7_set 8 = .ok (.bipush (-2), 2) := by decide +kernel
theorem dX7_set_10 : decode cX7_set 10 = .ok (.ireturn, 1) := by decide +kernel
theorem dX7_set_11 : decode cX7_set 11 = .ok (.aload_n 0, 1) := by decide +kernel
theorem dX7_set_12 : decode cX7_set 12 = .ok (.getfield 7, 3) := by decide +kernel
theorem dX7_set_15 : decode cX7_set 15 = .ok (.iconst 4, 1) := by decide +kernel
theorem dX7_set_16 : decode cX7_set 16 = .ok (.iload_n 1, 1) := by decide +kernel
theorem dX7_set_17 : decode cX7_set 17 = .ok (.iadd, 1) := by decide +kernel
theorem dX7_set_18 : decode cX7_set 18 = .ok (.iaload, 1) := by decide +kernel
theorem dX7_set_19 : decode cX7_set 19 = .ok (.istore_n 3, 1) := by decide +kernel
theorem dX7_set_20 : decode cX7_set 20 = .ok (.iload_n 3, 1) := by decide +kernel
theorem dX7_set_21 : decode cX7_set 21 = .ok (.iload_n 2, 1) := by decide +kernel
theorem dX7_set_22 : decode cX7_set 22 = .ok (.if_icmp .ne 6, 3) := by decide +kernel
theorem dX7_set_25 : decode cX7_set 25 = .ok (.bipush (-5), 2) := by decide +kernel
theorem dX7_set_27 : decode cX7_set 27 = .ok (.ireturn, 1) := by decide +kernel
theorem dX7_set_28 : decode cX7_set 28 = .ok (.aload_n 0, 1) := by decide +kernel
theorem dX7_set_29 : decode cX7_set 29 = .ok (.invokevirtual 71, 3) := by decide +kernel
theorem dX7_set_32 : decode cX7_set 32 = .ok (.aload_n 0, 1) := by decide +kernel
theorem dX7_set_33 : decode cX7_set 33 = .ok (.getfield 7, 3) := by decide +kernel
theorem dX7_set_36 : decode cX7_set 36 = .ok (.iconst 4, 1) := by decide +kernel
theorem dX7_set_37 : decode cX7_set 37 = .ok (.iload_n 1, 1) := by decide +kernel
theorem dX7_set_38 : decode cX7_set 38 = .ok (.iadd, 1) := by decide +kernel
theorem dX7_set_39 : decode cX7_set 39 = .ok (.iload_n 2, 1) := by decide +kernel
theorem dX7_set_40 : decode cX7_set 40 = .ok (.iastore, 1) := by decide +kernel
theorem dX7_set_41 : decode cX7_set 41 = .ok (.iload_n 3, 1) := by decide +kernel
theorem dX7_set_42 : decode cX7_set 42 = .ok (.ireturn, 1) := by decide +kernel
theorem dX7_inState_0 : decode cX7_inState 0 = .ok (.iconst 0, 1) := by decide +kernel
theorem dX7_inState_1 : decode cX7_inState 1 = .ok (.istore_n 2, 1) := by decide +kernel
theorem dX7_inState_2 : decode cX7_inState 2 = .ok (.iconst 0, 1) := by decide +kernel
theorem dX7_inState_3 : decode cX7_inState 3 = .ok (.istore_n 3, 1) := by decide +kernel
theorem dX7_inState_4 : decode cX7_inState 4 = .ok (.iload_n 3, 1) := by decide +kernel
theorem dX7_inState_5 : decode cX7_inState 5 = .ok (.aload_n 0, 1) := by decide +kernel
theorem dX7_inState_6 : decode cX7_inState 6 = .ok (.getfield 7, 3) := by decide +kernel
theorem dX7_inState_9 : decode cX7_inState 9 = .ok (.iconst 1, 1) := by decide +kernel
theorem dX7_inState_10 : decode cX7_inState 10 = .ok (.iaload, 1) := by decide +kernel
theorem dX7_inState_11 : decode cX7_inState 11 = .ok (.if_icmp .ge 27, 3) := by decide +kernel
theorem dX7_inState_14 : decode cX7_inState 14 = .ok (.iload_n 2, 1) := by decide +kernel
theorem dX7_inState_15 : decode cX7_inState 15 = .ok (.aload_n 0, 1) := by decide +kernel
theorem dX7_inState_16 : decode cX7_inState 16 = .ok (.iload_n 3, 1) := by decide +kernel
theorem dX7_inState_17 : decode cX7_inState 17 = .ok (.iconst 2, 1) := by decide +kernel
theorem dX7_inState_18 : decode cX7_inState 18 = .ok (.invokevirtual 49, 3) := by decide +kernel
theorem dX7_inState_21 : decode cX7_inState 21 = .ok (.iload_n 1, 1) := by decide +kernel
theorem dX7_inState_22 : decode cX7_inState 22 = .ok (.if_icmp .ne 7, 3) := by decide +kernel
theorem dX7_inState_25 : decode cX7_inState 25 = .ok (.iconst 1, 1) := by decide +kernel
theorem dX7_inState_26 : decode cX7_inState 26 = .ok (.goto 4, 3) := by decide +kernel
theorem dX7_inState_29 : decode cX7_inState 29 = .ok (.iconst 0, 1) := by decide +kernel
theorem dX7_inState_30 : decode cX7_inState 30 = .ok (.iadd, 1) := by decide +kernel
theorem dX7_inState_31 : decode cX7_inState 31 = .ok (.istore_n 2, 1) := by decide +kernel
theorem dX7_inState_32 : decode cX7_inState 32 = .ok (.iinc 3 1, 3) := by decide +kernel
theorem dX7_inState_35 : decode cX7_inState 35 = .ok (.goto (-31), 3) := by decide +kernel
theorem dX7_inState_38 : decode cX7_inState 38 = .ok (.iload_n 2, 1) := by decide +kernel
theorem dX7_inState_39 : decode cX7_inState 39 = .ok (.ireturn, 1) := by decide +kernel
theorem dX7_tellDeath_0 : decode cX7_tellDeath 0 = .ok (.aload_n 0, 1) := by decide +kernel
theorem dX7_tellDeath_1 : decode cX7_tellDeath 1 = .ok (.iload_n 1, 1) := by decide +kernel
theorem dX7_tellDeath_2 : decode cX7_tellDeath 2 = .ok (.invokevirtual 45, 3) := by decide +kernel
theorem dX7_tellDeath_5 : decode cX7_tellDeath 5 = .ok (.ifCond .eq 12, 3) := by decide +kernel
theorem dX7_tellDeath_8 : decode cX7_tellDeath 8 = .ok (.iload_n 2, 1) := by decide +kernel
theorem dX7_tellDeath_9 : decode cX7_tellDeath 9 = .ok (.iconst 0, 1) := by decide +kernel
theorem dX7_tellDeath_10 : decode cX7_tellDeath 10 = .ok (.iconst 5, 1) := by decide +kernel
theorem dX7_tellDeath_11 : decode cX7_tellDeath 11 = .ok (.invokestatic 41, 3) := by decide +kernel
theorem dX7_tellDeath_14 : decode cX7_tellDeath 14 = .ok (.ifCond .ne 5, 3) := by decide +kernel
theorem dX7_tellDeath_17 : decode cX7_tellDeath 17 = .ok (.iconst (-1), 1) := by decide +kernel
theorem dX7_tellDeath_18 : decode cX7_tellDeath 18 = .ok (.ireturn, 1) := by decide +kernel
theorem dX7_tellDeath_19 : decode cX7_tellDeath 19 = .ok (.iload_n 1, 1) := by decide +kernel
theorem dX7_tellDeath_20 : decode cX7_tellDeath 20 = .ok (.invokestatic 37, 3) := by decide +kernel
theorem dX7_tellDeath_23 : decode cX7_tellDeath 23 = .ok (.istore_n 3, 1) := by decide +kernel
theorem dX7_tellDeath_24 : decode cX7_tellDeath 24 = .ok (.aload_n 0, 1) := by decide +kernel
theorem dX7_tellDeath_25 : decode cX7_tellDeath 25 = .ok (.getfield 7, 3) := by decide +kernel
theorem dX7_tellDeath_28 : decode cX7_tellDeath 28 = .ok (.iload_n 3, 1) := by decide +kernel
theorem dX7_tellDeath_29 : decode cX7_tellDeath 29 = .ok (.iconst 2, 1) := by decide +kernel
theorem dX7_tellDeath_30 : decode cX7_tellDeath 30 = .ok (.iadd, 1) := by decide +kernel
theorem dX7_tellDeath_31 : decode cX7_tellDeath 31 = .ok (.iaload, 1) := by decide +kernel
theorem dX7_tellDeath_32 : decode cX7_tellDeath 32 = .ok (.iconst 1, 1) := by decide +kernel
theorem dX7_tellDeath_33 : decode cX7_tellDeath 33 = .ok (.if_icmp .le 6, 3) := by decide +kernel
theorem dX7_tellDeath_36 : decode cX7_tellDeath 36 = .ok (.bipush (-4), 2) := by decide +kernel
theorem dX7_tellDeath_38 : decode cX7_tellDeath 38 = .ok (.ireturn, 1) := by decide +kernel
theorem dX7_tellDeath_39 : decode cX7_tellDeath 39 = .ok (.aload_n 0, 1) := by decide +kernel
theorem dX7_tellDeath_40 : decode cX7_tellDeath 40 = .ok (.getfield 7, 3) := by decide +kernel
theorem dX7_tellDeath_43 : decode cX7_tellDeath 43 = .ok (.iload_n 3, 1) := by decide +kernel
theorem dX7_tellDeath_44 : decode cX7_tellDeath 44 = .ok (.iconst 2, 1) := by decide +kernel
theorem dX7_tellDeath_45 : decode cX7_tellDeath 45 = .ok (.iadd, 1) := by decide +kernel
theorem dX7_tellDeath_46 : decode cX7_tellDeath 46 = .ok (.iaload, 1) := by decide +kernel
theorem dX7_tellDeath_47 : decode cX7_tellDeath 47 = .ok (.iconst 1, 1) := by decide +kernel
theorem dX7_tellDeath_48 : decode cX7_tellDeath 48 = .ok (.if_icmp .ne 18, 3) := by decide +kernel
theorem dX7_tellDeath_51 : decode cX7_tellDeath 51 = .ok (.aload_n 0, 1) := by decide +kernel
theorem dX7_tellDeath_52 : decode cX7_tellDeath 52 = .ok (.getfield 7, 3) := by decide +kernel
theorem dX7_tellDeath_55 : decode cX7_tellDeath 55 = .ok (.iload_n 3, 1) := by decide +kernel
theorem dX7_tellDeath_56 : decode cX7_tellDeath 56 = .ok (.iconst 5, 1) := by decide +kernel
theorem dX7_tellDeath_57 : decode cX7_tellDeath 57 = .ok (.iadd, 1) := by decide +kernel
theorem dX7_tellDeath_58 : decode cX7_tellDeath 58 = .ok (.iaload, 1) := by decide +kernel
theorem dX7_tellDeath_59 : decode cX7_tellDeath 59 = .ok (.iload_n 2, 1) := by decide +kernel
theorem dX7_tellDeath_60 : decode cX7_tellDeath 60 = .ok (.if_icmp .ne 6, 3) := by decide +kernel
theorem dX7_tellDeath_63 : decode cX7_tellDeath 63 = .ok (.bipush (-5), 2) := by decide +kernel
theorem dX7_tellDeath_65 : decode cX7_tellDeath 65 = .ok (.ireturn, 1) := by decide +kernel
theorem dX7_tellDeath_66 : decode cX7_tellDeath 66 = .ok (.aload_n 0, 1) := by decide +kernel
theorem dX7_tellDeath_67 : decode cX7_tellDeath 67 = .ok (.invokevirtual 71, 3) := by decide +kernel
theorem dX7_tellDeath_70 : decode cX7_tellDeath 70 = .ok (.aload_n 0, 1) := by decide +kernel
theorem dX7_tellDeath_71 : decode cX7_tellDeath 71 = .ok (.getfield 7, 3) := by decide +kernel
theorem dX7_tellDeath_74 : decode cX7_tellDeath 74 = .ok (.iload_n 3, 1) := by decide +kernel
theorem dX7_tellDeath_75 : decode cX7_tellDeath 75 = .ok (.iconst 4, 1) := by decide +kernel
theorem dX7_tellDeath_76 : decode cX7_tellDeath 76 = .ok (.iadd, 1) := by decide +kernel
theorem dX7_tellDeath_77 : decode cX7_tellDeath 77 = .ok (.aload_n 0, 1) := by decide +kernel
theorem dX7_tellDeath_78 : decode cX7_tellDeath 78 = .ok (.getfield 7, 3) := by decide +kernel
theorem dX7_tellDeath_81 : decode cX7_tellDeath 81 = .ok (.iconst 0, 1) := by decide +kernel
theorem dX7_tellDeath_82 : decode cX7_tellDeath 82 = .ok (.iaload, 1) := by decide +kernel
theorem dX7_tellDeath_83 : decode cX7_tellDeath 83 = .ok (.iastore, 1) := by decide +kernel
theorem dX7_tellDeath_84 : decode cX7_tellDeath 84 = .ok (.aload_n 0, 1) := by decide +kernel
theorem dX7_tellDeath_85 : decode cX7_tellDeath 85 = .ok (.getfield 7, 3) := by decide +kernel
theorem dX7_tellDeath_88 : decode cX7_tellDeath 88 = .ok (.iload_n 3, 1) := by decide +kernel
theorem dX7_tellDeath_89 : decode cX7_tellDeath 89 = .ok (.iconst 5, 1) := by decide +kernel
theorem dX7_tellDeath_90 : decode cX7_tellDeath 90 = .ok (.iadd, 1) := by decide +kernel
theorem dX7_tellDeath_91 : decode cX7_tellDeath 91 = .ok (.iload_n 2, 1) := by decide +kernel
theorem dX7_tellDeath_92 : decode cX7_tellDeath 92 = .ok (.iastore, 1) := by decide +kernel
theorem dX7_tellDeath_93 : decode cX7_tellDeath 93 = .ok (.aload_n 0, 1) := by decide +kernel
theorem dX7_tellDeath_94 : decode cX7_tellDeath 94 = .ok (.getfield 7, 3) := by decide +kernel
theorem dX7_tellDeath_97 : decode cX7_tellDeath 97 = .ok (.iload_n 3, 1) := by decide +kernel
theorem dX7_tellDeath_98 : decode cX7_tellDeath 98 = .ok (.iconst 2, 1) := by decide +kernel
theorem dX7_tellDeath_99 : decode cX7_tellDeath 99 = .ok (.iadd, 1) := by decide +kernel
theorem dX7_tellDeath_100 : decode cX7_tellDeath 100 = .ok (.dup2, 1) := by decide +kernel
theorem dX7_tellDeath_101 : decode cX7_tellDeath 101 = .ok (.iaload, 1) := by decide +kernel
theorem dX7_tellDeath_102 : decode cX7_tellDeath 102 = .ok (.iconst 1, 1) := by decide +kernel
theorem dX7_tellDeath_103 : decode cX7_tellDeath 103 = .ok (.iadd, 1) := by decide +kernel
theorem dX7_tellDeath_104 : decode cX7_tellDeath 104 = .ok (.iastore, 1) := by decide +kernel
theorem dX7_tellDeath_105 : decode cX7_tellDeath 105 = .ok (.aload_n 0, 1) := by decide +kernel
theorem dX7_tellDeath_106 : decode cX7_tellDeath 106 = .ok (.getfield 7, 3) := by decide +kernel
theorem dX7_tellDeath_109 : decode cX7_tellDeath 109 = .ok (.iload_n 3, 1) := by decide +kernel
theorem dX7_tellDeath_110 : decode cX7_tellDeath 110 = .ok (.iconst 2, 1) := by decide +kernel
theorem dX7_tellDeath_111 : decode cX7_tellDeath 111 = .ok (.iadd, 1) := by decide +kernel
theorem dX7_tellDeath_112 : decode cX7_tellDeath 112 = .ok (.iaload, 1) := by decide +kernel
theorem dX7_tellDeath_113 : decode cX7_tellDeath 113 = .ok (.iconst 1, 1) := by decide +kernel
theorem dX7_tellDeath_114 : decode cX7_tellDeath 114 = .ok (.isub, 1) := by decide +kernel
theorem dX7_tellDeath_115 : decode cX7_tellDeath 115 = .ok (.ireturn, 1) := by decide +kernel
theorem dX7_decide_0 : decode cX7_decide 0 = .ok (.aload_n 0, 1) := by decide +kernel
theorem dX7_decide_1 : decode cX7_decide 1 = .ok (.iload_n 1, 1) := by decide +kernel
theorem dX7_decide_2 : decode cX7_decide 2 = .ok (.invokevirtual 45, 3) := by decide +kernel
theorem dX7_decide_5 : decode cX7_decide 5 = .ok (.ifCond .ne 5, 3) := by decide +kernel
theorem dX7_decide_8 : decode cX7_decide 8 = .ok (.iconst (-1), 1) := by decide +kernel
theorem dX7_decide_9 : decode cX7_decide 9 = .ok (.ireturn, 1) := by decide +kernel
theorem dX7_decide_10 : decode cX7_decide 10 = .ok (.iload_n 1, 1) := by decide +kernel
theorem dX7_decide_11 : decode cX7_decide 11 = .ok (.invokestatic 37, 3) := by decide +kernel
theorem dX7_decide_14 : decode cX7_decide 14 = .ok (.istore_n 3, 1) := by decide +kernel
theorem dX7_decide_15 : decode cX7_decide 15 = .ok (.aload_n 0, 1) := by decide +kernel
theorem dX7_decide_16 : decode cX7_decide 16 = .ok (.getfield 7, 3) := by decide +kernel
theorem dX7_decide_19 : decode cX7_decide 19 = .ok (.iload_n 3, 1) := by decide +kernel
theorem dX7_decide_20 : decode cX7_decide 20 = .ok (.iconst 2, 1) := by decide +kernel
theorem dX7_decide_21 : decode cX7_decide 21 = .ok (.iadd, 1) := by decide +kernel
theorem dX7_decide_22 : decode cX7_decide 22 = .ok (.iaload, 1) := by decide +kernel
theorem dX7_decide_23 : decode cX7_decide 23 = .ok (.iconst 1, 1) := by decide +kernel
theorem dX7_decide_24 : decode cX7_decide 24 = .ok (.if_icmp .eq 6, 3) := by decide +kernel
theorem dX7_decide_27 : decode cX7_decide 27 = .ok (.bipush (-4), 2) := by decide +kernel
theorem dX7_decide_29 : decode cX7_decide 29 = .ok (.ireturn, 1) := by decide +kernel
theorem dX7_decide_30 : decode cX7_decide 30 = .ok (.aload_n 0, 1) := by decide +kernel
theorem dX7_decide_31 : decode cX7_decide 31 = .ok (.invokevirtual 71, 3) := by decide +kernel
theorem dX7_decide_34 : decode cX7_decide 34 = .ok (.aload_n 0, 1) := by decide +kernel
theorem dX7_decide_35 : decode cX7_decide 35 = .ok (.getfield 7, 3) := by decide +kernel
theorem dX7_decide_38 : decode cX7_decide 38 = .ok (.iload_n 3, 1) := by decide +kernel
theorem dX7_decide_39 : decode cX7_decide 39 = .ok (.iconst 2, 1) := by decide +kernel
theorem dX7_decide_40 : decode cX7_decide 40 = .ok (.iadd, 1) := by decide +kernel
theorem dX7_decide_41 : decode cX7_decide 41 = .ok (.iload_n 2, 1) := by decide +kernel
theorem dX7_decide_42 : decode cX7_decide 42 = .ok (.ifCond .eq 7, 3) := by decide +kernel
theorem dX7_decide_45 : decode cX7_decide 45 = .ok (.iconst 2, 1) := by decide +kernel
theorem dX7_decide_46 : decode cX7_decide 46 = .ok (.goto 4, 3) := by decide +kernel
theorem dX7_decide_49 : decode cX7_decide 49 = .ok (.iconst 0, 1) := by decide +kernel
theorem dX7_decide_50 : decode cX7_decide 50 = .ok (.iastore, 1) := by decide +kernel
theorem dX7_decide_51 : decode cX7_decide 51 = .ok (.aload_n 0, 1) := by decide +kernel
theorem dX7_decide_52 : decode cX7_decide 52 = .ok (.getfield 7, 3) := by decide +kernel
theorem dX7_decide_55 : decode cX7_decide 55 = .ok (.iload_n 3, 1) := by decide +kernel
theorem dX7_decide_56 : decode cX7_decide 56 = .ok (.iconst 4, 1) := by decide +kernel
theorem dX7_decide_57 : decode cX7_decide 57 = .ok (.iadd, 1) := by decide +kernel
theorem dX7_decide_58 : decode cX7_decide 58 = .ok (.aload_n 0, 1) := by decide +kernel
theorem dX7_decide_59 : decode cX7_decide 59 = .ok (.getfield 7, 3) := by decide +kernel
theorem dX7_decide_62 : decode cX7_decide 62 = .ok (.iconst 0, 1) := by decide +kernel
theorem dX7_decide_63 : decode cX7_decide 63 = .ok (.iaload, 1) := by decide +kernel
theorem dX7_decide_64 : decode cX7_decide 64 = .ok (.iastore, 1) := by decide +kernel
theorem dX7_decide_65 : decode cX7_decide 65 = .ok (.aload_n 0, 1) := by decide +kernel
theorem dX7_decide_66 : decode cX7_decide 66 = .ok (.iconst 1, 1) := by decide +kernel
theorem dX7_decide_67 : decode cX7_decide 67 = .ok (.invokevirtual 132, 3) := by decide +kernel
theorem dX7_decide_70 : decode cX7_decide 70 = .ok (.ireturn, 1) := by decide +kernel
theorem dX7_isAhead_0 : decode cX7_isAhead 0 = .ok (.aload_n 0, 1) := by decide +kernel
theorem dX7_isAhead_1 : decode cX7_isAhead 1 = .ok (.iload_n 2, 1) := by decide +kernel
theorem dX7_isAhead_2 : decode cX7_isAhead 2 = .ok (.iconst 1, 1) := by decide +kernel
theorem dX7_isAhead_3 : decode cX7_isAhead 3 = .ok (.invokevirtual 49, 3) := by decide +kernel
theorem dX7_isAhead_6 : decode cX7_isAhead 6 = .ok (.aload_n 0, 1) := by decide +kernel
theorem dX7_isAhead_7 : decode cX7_isAhead 7 = .ok (.iload_n 1, 1) := by decide +kernel
theorem dX7_isAhead_8 : decode cX7_isAhead 8 = .ok (.iconst 1, 1) := by decide +kernel
theorem dX7_isAhead_9 : decode cX7_isAhead 9 = .ok (.invokevirtual 49, 3) := by decide +kernel
theorem dX7_isAhead_12 : decode cX7_isAhead 12 = .ok (.isub, 1) := by decide +kernel
theorem dX7_isAhead_13 : decode cX7_isAhead 13 = .ok (.istore_n 3, 1) := by decide +kernel
theorem dX7_isAhead_14 : decode cX7_isAhead 14 = .ok (.iload_n 3, 1) := by decide +kernel
theorem dX7_isAhead_15 : decode cX7_isAhead 15 = .ok (.ifCond .eq 7, 3) := by decide +kernel
theorem dX7_isAhead_18 : decode cX7_isAhead 18 = .ok (.iload_n 3, 1) := by decide +kernel
theorem dX7_isAhead_19 : decode cX7_isAhead 19 = .ok (.goto 16, 3) := by decide +kernel
theorem dX7_isAhead_22 : decode cX7_isAhead 22 = .ok (.aload_n 0, 1) := by decide +kernel
theorem dX7_isAhead_23 : decode cX7_isAhead 23 = .ok (.iload_n 1, 1) := by decide +kernel
theorem dX7_isAhead_24 : decode cX7_isAhead 24 = .ok (.iconst 4, 1) := by decide +kernel
theorem dX7_isAhead_25 : decode cX7_isAhead 25 = .ok (.invokevirtual 49, 3) := by decide +kernel
theorem dX7_isAhead_28 : decode cX7_isAhead 28 = .ok (.aload_n 0, 1) := by decide +kernel
theorem dX7_isAhead_29 : decode cX7_isAhead 29 = .ok (.iload_n 2, 1) := by decide +kernel
theorem dX7_isAhead_30 : decode cX7_isAhead 30 = .ok (.iconst 4, 1) := by decide +kernel
theorem dX7_isAhead_31 : decode cX7_isAhead 31 = .ok (.invokevirtual 49, 3) := by decide +kernel
theorem dX7_isAhead_34 : decode cX7_isAhead 34 = .ok (.isub, 1) := by decide +kernel
theorem dX7_isAhead_35 : decode cX7_isAhead 35 = .ok (.istore_n 3, 1) := by decide +kernel
theorem dX7_isAhead_36 : decode cX7_isAhead 36 = .ok (.iload_n 3, 1) := by decide +kernel
theorem dX7_isAhead_37 : decode cX7_isAhead 37 = .ok (.ifCond .lt 12, 3) := by decide +kernel
theorem dX7_isAhead_40 : decode cX7_isAhead 40 = .ok (.iload_n 3, 1) := by decide +kernel
theorem dX7_isAhead_41 : decode cX7_isAhead 41 = .ok (.ifCond .ne 12, 3) := by decide +kernel
theorem dX7_isAhead_44 : decode cX7_isAhead 44 = .ok (.iload_n 1, 1) := by decide +kernel
theorem dX7_isAhead_45 : decode cX7_isAhead 45 = .ok (.iload_n 2, 1) := by decide +kernel
theorem dX7_isAhead_46 : decode cX7_isAhead 46 = .ok (.if_icmp .ge 7, 3) := by decide +kernel
theorem dX7_isAhead_49 : decode cX7_isAhead 49 = .ok (.iconst 1, 1) := by decide +kernel
theorem dX7_isAhead_50 : decode cX7_isAhead 50 = .ok (.goto 4, 3) := by decide +kernel
theorem dX7_isAhead_53 : decode cX7_isAhead 53 = .ok (.iconst 0, 1) := by decide +kernel
theorem dX7_isAhead_54 : decode cX7_isAhead 54 = .ok (.ireturn, 1) := by decide +kernel
theorem dX7_layPage_0 : decode cX7_layPage 0 = .ok (.aload_n 0, 1) := by decide +kernel
theorem dX7_layPage_1 : decode cX7_layPage 1 = .ok (.iconst 0, 1) := by decide +kernel
theorem dX7_layPage_2 : decode cX7_layPage 2 = .ok (.putfield 135, 3) := by decide +kernel
theorem dX7_layPage_5 : decode cX7_layPage 5 = .ok (.aload_n 0, 1) := by decide +kernel
theorem dX7_layPage_6 : decode cX7_layPage 6 = .ok (.aload_n 0, 1) := by decide +kernel
theorem dX7_layPage_7 : decode cX7_layPage 7 = .ok (.getfield 7, 3) := by decide +kernel
theorem dX7_layPage_10 : decode cX7_layPage 10 = .ok (.iconst 5, 1) := by decide +kernel
theorem dX7_layPage_11 : decode cX7_layPage 11 = .ok (.iaload, 1) := by decide +kernel
theorem dX7_layPage_12 : decode cX7_layPage 12 = .ok (.putfield 138, 3) := by decide +kernel
theorem dX7_layPage_15 : decode cX7_layPage 15 = .ok (.iconst 0, 1) := by decide +kernel
theorem dX7_layPage_16 : decode cX7_layPage 16 = .ok (.istore_n 1, 1) := by decide +kernel
theorem dX7_layPage_17 : decode cX7_layPage 17 = .ok (.iload_n 1, 1) := by decide +kernel
theorem dX7_layPage_18 : decode cX7_layPage 18 = .ok (.bipush 20, 2) := by decide +kernel
theorem dX7_layPage_20 : decode cX7_layPage 20 = .ok (.if_icmp .ge 48, 3) := by decide +kernel
theorem dX7_layPage_23 : decode cX7_layPage 23 = .ok (.aload_n 0, 1) := by decide +kernel
theorem dX7_layPage_24 : decode cX7_layPage 24 = .ok (.getfield 22, 3) := by decide +kernel
theorem dX7_layPage_27 : decode cX7_layPage 27 = .ok (.iload_n 1, 1) := by decide +kernel
theorem dX7_layPage_28 : decode cX7_layPage 28 = .ok (.iload_n 1, 1) := by decide +kernel
theorem dX7_layPage_29 : decode cX7_layPage 29 = .ok (.aload_n 0, 1) := by decide +kernel
theorem dX7_layPage_30 : decode cX7_layPage 30 = .ok (.getfield 7, 3) := by decide +kernel
theorem dX7_layPage_33 : decode cX7_layPage 33 = .ok (.iconst 1, 1) := by decide +kernel
theorem dX7_layPage_34 : decode cX7_layPage 34 = .ok (.iaload, 1) := by decide +kernel
theorem dX7_layPage_35 : decode cX7_layPage 35 = .ok (.if_icmp .ge 21, 3) := by decide +kernel
theorem dX7_layPage_38 : decode cX7_layPage 38 = .ok (.aload_n 0, 1) := by decide +kernel
theorem dX7_layPage_39 : decode cX7_layPage 39 = .ok (.iload_n 1, 1) := by decide +kernel
theorem dX7_layPage_40 : decode cX7_layPage 40 = .ok (.iconst 2, 1) := by decide +kernel
theorem dX7_layPage_41 : decode cX7_layPage 41 = .ok (.invokevirtual 49, 3) := by decide +kernel
theorem dX7_layPage_44 : decode cX7_layPage 44 = .ok (.iconst 2, 1) := by decide +kernel
theorem dX7_layPage_45 : decode cX7_layPage 45 = .ok (.if_icmp .ne 11, 3) := by decide +kernel
theorem dX7_layPage_48 : decode cX7_layPage 48 = .ok (.aload_n 0, 1) := by decide +kernel
theorem dX7_layPage_49 : decode cX7_layPage 49 = .ok (.iload_n 1, 1) := by decide +kernel
theorem dX7_layPage_50 : decode cX7_layPage 50 = .ok (.invokevirtual 141, 3) := by decide +kernel
theorem dX7_layPage_53 : decode cX7_layPage 53 = .ok (.ifCond .ne 7, 3) := by decide +kernel
theorem dX7_layPage_56 : decode cX7_layPage 56 = .ok (.iconst 1, 1) := by decide +kernel
theorem dX7_layPage_57 : decode cX7_layPage 57 = .ok (.goto 4, 3) := by decide +kernel
theorem dX7_layPage_60 : decode cX7_layPage 60 = .ok (.iconst 0, 1) := by decide +kernel
theorem dX7_layPage_61 : decode cX7_layPage 61 = .ok (.bastore, 1) := by decide +kernel
theorem dX7_layPage_62 : decode cX7_layPage 62 = .ok (.iinc 1 1, 3) := by decide +kernel
theorem dX7_layPage_65 : decode cX7_layPage 65 = .ok (.goto (-48), 3) := by decide +kernel
theorem dX7_layPage_68 : decode cX7_layPage 68 = .ok (.iconst 1, 1) := by decide +kernel
theorem dX7_layPage_69 : decode cX7_layPage 69 = .ok (.istore_n 1, 1) := by decide +kernel
theorem dX7_layPage_70 : decode cX7_layPage 70 = .ok (.iload_n 1, 1) := by decide +kernel
theorem dX7_layPage_71 : decode cX7_layPage 71 = .ok (.ifCond .eq 122, 3) := by decide +kernel
theorem dX7_layPage_74 : decode cX7_layPage 74 = .ok (.bipush (-5), 2) := by decide +kernel
theorem dX7_layPage_76 : decode cX7_layPage 76 = .ok (.istore_n 2, 1) := by decide +kernel
theorem dX7_layPage_77 : decode cX7_layPage 77 = .ok (.iconst 0, 1) := by decide +kernel
theorem dX7_layPage_78 : decode cX7_layPage 78 = .ok (.istore_n 3, 1) := by decide +kernel
theorem dX7_layPage_79 : decode cX7_layPage 79 = .ok (.iload_n 3, 1) := by decide +kernel
theorem dX7_layPage_80 : decode cX7_layPage 80 = .ok (.bipush 20, 2) := by decide +kernel
theorem dX7_layPage_82 : decode cX7_layPage 82 = .ok (.if_icmp .ge 39, 3) := by decide +kernel
theorem dX7_layPage_85 : decode cX7_layPage 85 = .ok (.aload_n 0, 1) := by decide +kernel
theorem dX7_layPage_86 : decode cX7_layPage 86 = .ok (.getfield 22, 3) := by decide +kernel
theorem dX7_layPage_89 : decode cX7_layPage 89 = .ok (.iload_n 3, 1) := by decide +kernel
theorem dX7_layPage_90 : decode cX7_layPage 90 = .ok (.baload, 1) := by decide +kernel
theorem dX7_layPage_91 : decode cX7_layPage 91 = .ok (.ifCond .ne 22, 3) := by decide +kernel
theorem dX7_layPage_94 : decode cX7_layPage 94 = .ok (.iload_n 2, 1) := by decide +kernel
theorem dX7_layPage_95 : decode cX7_layPage 95 = .ok (.bipush (-5), 2) := by decide +kernel
theorem dX7_layPage_97 : decode cX7_layPage 97 = .ok (.if_icmp .eq 12, 3) := by decide +kernel
theorem dX7_layPage_100 : decode cX7_layPage 100 = .ok (.aload_n 0, 1) := by decide +kernel
theorem dX7_layPage_101 : decode cX7_layPage 101 = .ok (.iload_n 3, 1) := by decide +kernel
theorem dX7_layPage_102 : decode cX7_layPage 102 = .ok (.iload_n 2, 1) := by decide +kernel
theorem dX7_layPage_103 : decode cX7_layPage 103 = .ok (.invokevirtual 144, 3) := by decide +kernel
theorem dX7_layPage_106 : decode cX7_layPage 106 = .ok (.ifCond .eq 7, 3) := by decide +kernel
theorem dX7_layPage_109 : decode cX7_layPage 109 = .ok (.iload_n 3, 1) := by decide +kernel
theorem dX7_layPage_110 : decode cX7_layPage 110 = .ok (.goto 4, 3) := by decide +kernel
theorem dX7_layPage_113 : decode cX7_layPage 113 = .ok (.iload_n 2, 1) := by decide +kernel
theorem dX7_layPage_114 : decode cX7_layPage 114 = .ok (.istore_n 2, 1) := by decide +kernel
theorem dX7_layPage_115 : decode cX7_layPage 115 = .ok (.iinc 3 1, 3) := by decide +kernel
theorem dX7_layPage_118 : decode cX7_layPage 118 = .ok (.goto (-39), 3) := by decide +kernel
theorem dX7_layPage_121 : decode cX7_layPage 121 = .ok (.iload_n 2, 1) := by decide +kernel
theorem dX7_layPage_122 : decode cX7_layPage 122 = .ok (.bipush (-5), 2) := by decide +kernel
theorem dX7_layPage_124 : decode cX7_layPage 124 = .ok (.if_icmp .eq 7, 3) := by decide +kernel
theorem dX7_layPage_127 : decode cX7_layPage 127 = .ok (.iconst 1, 1) := by decide +kernel
theorem dX7_layPage_128 : decode cX7_layPage 128 = .ok (.goto 4, 3) := by decide +kernel
theorem dX7_layPage_131 : decode cX7_layPage 131 = .ok (.iconst 0, 1) := by decide +kernel
theorem dX7_layPage_132 : decode cX7_layPage 132 = .ok (.istore_n 1, 1) := by decide +kernel
theorem dX7_layPage_133 : decode cX7_layPage 133 = .ok (.iload_n 1, 1) := by decide +kernel
theorem dX7_layPage_134 : decode cX7_layPage 134 = .ok (.ifCond .eq 56, 3) := by decide +kernel
theorem dX7_layPage_137 : decode cX7_layPage 137 = .ok (.aload_n 0, 1) := by decide +kernel
theorem dX7_layPage_138 : decode cX7_layPage 138 = .ok (.getfield 22, 3) := by decide +kernel
theorem dX7_layPage_141 : decode cX7_layPage 141 = .ok (.iload_n 2, 1) := by decide +kernel
theorem dX7_layPage_142 : decode cX7_layPage 142 = .ok (.iconst 1, 1) := by decide +kernel
theorem dX7_layPage_143 : decode cX7_layPage 143 = .ok (.bastore, 1) := by decide +kernel
theorem dX7_layPage_144 : decode cX7_layPage 144 = .ok (.aload_n 0, 1) := by decide +kernel
theorem dX7_layPage_145 : decode cX7_layPage 145 = .ok (.iload_n 2, 1) := by decide +kernel
theorem dX7_layPage_146 : decode cX7_layPage 146 = .ok (.invokevirtual 147, 3) := by decide +kernel
theorem dX7_layPage_149 : decode cX7_layPage 149 = .ok (.aload_n 0, 1) := by decide +kernel
theorem dX7_layPage_150 : decode cX7_layPage 150 = .ok (.getfield 138, 3) := by decide +kernel
theorem dX7_layPage_153 : decode cX7_layPage 153 = .ok (.if_icmp .gt 37, 3) := by decide +kernel
theorem dX7_layPage_156 : decode cX7_layPage 156 = .ok (.aload_n 0, 1) := by decide +kernel
theorem dX7_layPage_157 : decode cX7_layPage 157 = .ok (.getfield 19, 3) := by decide +kernel
theorem dX7_layPage_160 : decode cX7_layPage 160 = .ok (.aload_n 0, 1) := by decide +kernel
theorem dX7_layPage_161 : decode cX7_layPage 161 = .ok (.getfield 135, 3) := by decide +kernel
theorem dX7_layPage_164 : decode cX7_layPage 164 = .ok (.iload_n 2, 1) := by decide +kernel
theorem dX7_layPage_165 : decode cX7_layPage 165 = .ok (.iastore, 1) := by decide +kernel
theorem dX7_layPage_166 : decode cX7_layPage 166 = .ok (.aload_n 0, 1) := by decide +kernel
theorem dX7_layPage_167 : decode cX7_layPage 167 = .ok (.dup, 1) := by decide +kernel
theorem dX7_layPage_168 : decode cX7_layPage 168 = .ok (.getfield 135, 3) := by decide +kernel
theorem dX7_layPage_171 : decode cX7_layPage 171 = .ok (.iconst 1, 1) := by decide +kernel
theorem dX7_layPage_172 : decode cX7_layPage 172 = .ok (.iadd, 1) := by decide +kernel
theorem dX7_layPage_173 : decode cX7_layPage 173 = .ok (.putfield 135, 3) := by decide +kernel
theorem dX7_layPage_176 : decode cX7_layPage 176 = .ok (.aload_n 0, 1) := by decide +kernel
theorem dX7_layPage_177 : decode cX7_layPage 177 = .ok (.dup, 1) := by decide +kernel
theorem dX7_layPage_178 : decode cX7_layPage 178 = .ok (.getfield 138, 3) := by decide +kernel
theorem dX7_layPage_181 : decode cX7_layPage 181 = .ok (.aload_n 0, 1) := by decide +kernel
theorem dX7_layPage_182 : decode cX7_layPage 182 = .ok (.iload_n 2, 1) := by decide +kernel
theorem dX7_layPage_183 : decode cX7_layPage 183 = .ok (.invokevirtual 147, 3) := by decide +kernel
theorem dX7_layPage_186 : decode cX7_layPage 186 = .ok (.isub, 1) := by decide +kernel
theorem dX7_layPage_187 : decode cX7_layPage 187 = .ok (.putfield 138, 3) := by decide +kernel
theorem dX7_layPage_190 : decode cX7_layPage 190 = .ok (.goto (-120), 3) := by decide +kernel
theorem dX7_layPage_193 : decode cX7_layPage 193 = .ok (.return_, 1) := by decide +kernel
theorem dX7_print_0 : decode cX7_print 0 = .ok (.aload_n 0, 1) := by decide +kernel
theorem dX7_print_1 : decode cX7_print 1 = .ok (.getfield 7, 3) := by decide +kernel
theorem dX7_print_4 : decode cX7_print 4 = .ok (.iconst 0, 1) := by decide +kernel
theorem dX7_print_5 : decode cX7_print 5 = .ok (.iaload, 1) := by decide +kernel
theorem dX7_print_6 : decode cX7_print 6 = .ok (.sipush 9999, 3) := by decide +kernel
theorem dX7_print_9 : decode cX7_print 9 = .ok (.if_icmp .ne 6, 3) := by decide +kernel
theorem dX7_print_12 : decode cX7_print 12 = .ok (.bipush (-3), 2) := by decide +kernel
theorem dX7_print_14 : decode cX7_print 14 = .ok (.ireturn, 1) := by decide +kernel
theorem dX7_print_15 : decode cX7_print 15 = .ok (.aload_n 0, 1) := by decide +kernel
theorem dX7_print_16 : decode cX7_print 16 = .ok (.invokevirtual 71, 3) := by decide +kernel
theorem dX7_print_19 : decode cX7_print 19 = .ok (.aload_n 0, 1) := by decide +kernel
theorem dX7_print_20 : decode cX7_print 20 = .ok (.invokevirtual 150, 3) := by decide +kernel
theorem dX7_print_23 : decode cX7_print 23 = .ok (.iconst 0, 1) := by decide +kernel
theorem dX7_print_24 : decode cX7_print 24 = .ok (.istore_n 1, 1) := by decide +kernel
theorem dX7_print_25 : decode cX7_print 25 = .ok (.iload_n 1, 1) := by decide +kernel
theorem dX7_print_26 : decode cX7_print 26 = .ok (.aload_n 0, 1) := by decide +kernel
theorem dX7_print_27 : decode cX7_print 27 = .ok (.getfield 135, 3) := by decide +kernel
theorem dX7_print_30 : decode cX7_print 30 = .ok (.if_icmp .ge 49, 3) := by decide +kernel
theorem dX7_print_33 : decode cX7_print 33 = .ok (.aload_n 0, 1) := by decide +kernel
theorem dX7_print_34 : decode cX7_print 34 = .ok (.getfield 7, 3) := by decide +kernel
theorem dX7_print_37 : decode cX7_print 37 = .ok (.aload_n 0, 1) := by decide +kernel
theorem dX7_print_38 : decode cX7_print 38 = .ok (.getfield 19, 3) := by decide +kernel
theorem dX7_print_41 : decode cX7_print 41 = .ok (.iload_n 1, 1) := by decide +kernel
theorem dX7_print_42 : decode cX7_print 42 = .ok (.iaload, 1) := by decide +kernel
theorem dX7_print_43 : decode cX7_print 43 = .ok (.invokestatic 37, 3) := by decide +kernel
theorem dX7_print_46 : decode cX7_print 46 = .ok (.iconst 2, 1) := by decide +kernel
theorem dX7_print_47 : decode cX7_print 47 = .ok (.iadd, 1) := by decide +kernel
theorem dX7_print_48 : decode cX7_print 48 = .ok (.iconst 3, 1) := by decide +kernel
theorem dX7_print_49 : decode cX7_print 49 = .ok (.iastore, 1) := by decide +kernel
theorem dX7_print_50 : decode cX7_print 50 = .ok (.aload_n 0, 1) := by decide +kernel
theorem dX7_print_51 : decode cX7_print 51 = .ok (.getfield 7, 3) := by decide +kernel
theorem dX7_print_54 : decode cX7_print 54 = .ok (.aload_n 0, 1) := by decide +kernel
theorem dX7_print_55 : decode cX7_print 55 = .ok (.getfield 19, 3) := by decide +kernel
theorem dX7_print_58 : decode cX7_print 58 = .ok (.iload_n 1, 1) := by decide +kernel
theorem dX7_print_59 : decode cX7_print 59 = .ok (.iaload, 1) := by decide +kernel
theorem dX7_print_60 : decode cX7_print 60 = .ok (.invokestatic 37, 3) := by decide +kernel
theorem dX7_print_63 : decode cX7_print 63 = .ok (.bipush 6, 2) := by decide +kernel
theorem dX7_print_65 : decode cX7_print 65 = .ok (.iadd, 1) := by decide +kernel
theorem dX7_print_66 : decode cX7_print 66 = .ok (.aload_n 0, 1) := by decide +kernel
theorem dX7_print_67 : decode cX7_print 67 = .ok (.getfield 7, 3) := by decide +kernel
theorem dX7_print_70 : decode cX7_print 70 = .ok (.iconst 0, 1) := by decide +kernel
theorem dX7_print_71 : decode cX7_print 71 = .ok (.iaload, 1) := by decide +kernel
theorem dX7_print_72 : decode cX7_print 72 = .ok (.iastore, 1) := by decide +kernel
theorem dX7_print_73 : decode cX7_print 73 = .ok (.iinc 1 1, 3) := by decide +kernel
theorem dX7_print_76 : decode cX7_print 76 = .ok (.goto (-51), 3) := by decide +kernel
theorem dX7_print_79 : decode cX7_print 79 = .ok (.iconst 0, 1) := by decide +kernel
theorem dX7_print_80 : decode cX7_print 80 = .ok (.istore_n 1, 1) := by decide +kernel
theorem dX7_print_81 : decode cX7_print 81 = .ok (.iload_n 1, 1) := by decide +kernel
theorem dX7_print_82 : decode cX7_print 82 = .ok (.aload_n 0, 1) := by decide +kernel
theorem dX7_print_83 : decode cX7_print 83 = .ok (.getfield 7, 3) := by decide +kernel
theorem dX7_print_86 : decode cX7_print 86 = .ok (.iconst 1, 1) := by decide +kernel
theorem dX7_print_87 : decode cX7_print 87 = .ok (.iaload, 1) := by decide +kernel
theorem dX7_print_88 : decode cX7_print 88 = .ok (.if_icmp .ge 75, 3) := by decide +kernel
theorem dX7_print_91 : decode cX7_print 91 = .ok (.aload_n 0, 1) := by decide +kernel
theorem dX7_print_92 : decode cX7_print 92 = .ok (.iload_n 1, 1) := by decide +kernel
theorem dX7_print_93 : decode cX7_print 93 = .ok (.iconst 2, 1) := by decide +kernel
theorem dX7_print_94 : decode cX7_print 94 = .ok (.invokevirtual 49, 3) := by decide +kernel
theorem dX7_print_97 : decode cX7_print 97 = .ok (.iconst 1, 1) := by decide +kernel
theorem dX7_print_98 : decode cX7_print 98 = .ok (.if_icmp .ne 32, 3) := by decide +kernel
theorem dX7_print_101 : decode cX7_print 101 = .ok (.aload_n 0, 1) := by decide +kernel
theorem dX7_print_102 : decode cX7_print 102 = .ok (.getfield 7, 3) := by decide +kernel
theorem dX7_print_105 : decode cX7_print 105 = .ok (.iconst 0, 1) := by decide +kernel
theorem dX7_print_106 : decode cX7_print 106 = .ok (.iaload, 1) := by decide +kernel
theorem dX7_print_107 : decode cX7_print 107 = .ok (.iconst 1, 1) := by decide +kernel
theorem dX7_print_108 : decode cX7_print 108 = .ok (.iadd, 1) := by decide +kernel
theorem dX7_print_109 : decode cX7_print 109 = .ok (.aload_n 0, 1) := by decide +kernel
theorem dX7_print_110 : decode cX7_print 110 = .ok (.iload_n 1, 1) := by decide +kernel
theorem dX7_print_111 : decode cX7_print 111 = .ok (.iconst 4, 1) := by decide +kernel
theorem dX7_print_112 : decode cX7_print 112 = .ok (.invokevirtual 49, 3) := by decide +kernel
theorem dX7_print_115 : decode cX7_print 115 = .ok (.aload_n 0, 1) := by decide +kernel
theorem dX7_print_116 : decode cX7_print 116 = .ok (.getfield 7, 3) := by decide +kernel
theorem dX7_print_119 : decode cX7_print 119 = .ok (.bipush 8, 2) := by decide +kernel
theorem dX7_print_121 : decode cX7_print 121 = .ok (.iaload, 1) := by decide +kernel
theorem dX7_print_122 : decode cX7_print 122 = .ok (.iadd, 1) := by decide +kernel
theorem dX7_print_123 : decode cX7_print 123 = .ok (.if_icmp .lt 7, 3) := by decide +kernel
theorem dX7_print_126 : decode cX7_print 126 = .ok (.iconst 1, 1) := by decide +kernel
theorem dX7_print_127 : decode cX7_print 127 = .ok (.goto 4, 3) := by decide +kernel
theorem dX7_print_130 : decode cX7_print 130 = .ok (.iconst 0, 1) := by decide +kernel
theorem dX7_print_131 : decode cX7_print 131 = .ok (.istore_n 2, 1) := by decide +kernel
theorem dX7_print_132 : decode cX7_print 132 = .ok (.aload_n 0, 1) := by decide +kernel
theorem dX7_print_133 : decode cX7_print 133 = .ok (.getfield 7, 3) := by decide +kernel
theorem dX7_print_136 : decode cX7_print 136 = .ok (.iload_n 1, 1) := by decide +kernel
theorem dX7_print_137 : decode cX7_print 137 = .ok (.invokestatic 37, 3) := by decide +kernel
theorem dX7_print_140 : decode cX7_print 140 = .ok (.iconst 2, 1) := by decide +kernel
theorem dX7_print_141 : decode cX7_print 141 = .ok (.iadd, 1) := by decide +kernel
theorem dX7_print_142 : decode cX7_print 142 = .ok (.iload_n 2, 1) := by decide +kernel
theorem dX7_print_143 : decode cX7_print 143 = .ok (.ifCond .eq 7, 3) := by decide +kernel
theorem dX7_print_146 : decode cX7_print 146 = .ok (.iconst 0, 1) := by decide +kernel
theorem dX7_print_147 : decode cX7_print 147 = .ok (.goto 9, 3) := by decide +kernel
theorem dX7_print_150 : decode cX7_print 150 = .ok (.aload_n 0, 1) := by decide +kernel
theorem dX7_print_151 : decode cX7_print 151 = .ok (.iload_n 1, 1) := by decide +kernel
theorem dX7_print_152 : decode cX7_print 152 = .ok (.iconst 2, 1) := by decide +kernel
theorem dX7_print_153 : decode cX7_print 153 = .ok (.invokevirtual 49, 3) := by decide +kernel
theorem dX7_print_156 : decode cX7_print 156 = .ok (.iastore, 1) := by decide +kernel
theorem dX7_print_157 : decode cX7_print 157 = .ok (.iinc 1 1, 3) := by decide +kernel
theorem dX7_print_160 : decode cX7_print 160 = .ok (.goto (-79), 3) := by decide +kernel
theorem dX7_print_163 : decode cX7_print 163 = .ok (.aload_n 0, 1) := by decide +kernel
theorem dX7_print_164 : decode cX7_print 164 = .ok (.getfield 7, 3) := by decide +kernel
theorem dX7_print_167 : decode cX7_print 167 = .ok (.iconst 0, 1) := by decide +kernel
theorem dX7_print_168 : decode cX7_print 168 = .ok (.dup2, 1) := by decide +kernel
theorem dX7_print_169 : decode cX7_print 169 = .ok (.iaload, 1) := by decide +kernel
theorem dX7_print_170 : decode cX7_print 170 = .ok (.iconst 1, 1) := by decide +kernel
theorem dX7_print_171 : decode cX7_print 171 = .ok (.iadd, 1) := by decide +kernel
theorem dX7_print_172 : decode cX7_print 172 = .ok (.iastore, 1) := by decide +kernel
theorem dX7_print_173 : decode cX7_print 173 = .ok (.aload_n 0, 1) := by decide +kernel
theorem dX7_print_174 : decode cX7_print 174 = .ok (.getfield 7, 3) := by decide +kernel
theorem dX7_print_177 : decode cX7_print 177 = .ok (.iconst 2, 1) := by decide +kernel
theorem dX7_print_178 : decode cX7_print 178 = .ok (.aload_n 0, 1) := by decide +kernel
theorem dX7_print_179 : decode cX7_print 179 = .ok (.getfield 7, 3) := by decide +kernel
theorem dX7_print_182 : decode cX7_print 182 = .ok (.iconst 4, 1) := by decide +kernel
theorem dX7_print_183 : decode cX7_print 183 = .ok (.iaload, 1) := by decide +kernel
theorem dX7_print_184 : decode cX7_print 184 = .ok (.iastore, 1) := by decide +kernel
theorem dX7_print_185 : decode cX7_print 185 = .ok (.aload_n 0, 1) := by decide +kernel
theorem dX7_print_186 : decode cX7_print 186 = .ok (.getfield 135, 3) := by decide +kernel
theorem dX7_print_189 : decode cX7_print 189 = .ok (.ireturn, 1) := by decide +kernel
theorem dX7_correct_0 : decode cX7_correct 0 = .ok (.aload_n 0, 1) := by decide +kernel
theorem dX7_correct_1 : decode cX7_correct 1 = .ok (.iload_n 1, 1) := by decide +kernel
theorem dX7_correct_2 : decode cX7_correct 2 = .ok (.iload_n 2, 1) := by decide +kernel
theorem dX7_correct_3 : decode cX7_correct 3 = .ok (.invokevirtual 116, 3) := by decide +kernel
theorem dX7_correct_6 : decode cX7_correct 6 = .ok (.ifCond .eq 12, 3) := by decide +kernel
theorem dX7_correct_9 : decode cX7_correct 9 = .ok (.iload_n 3, 1) := by decide +kernel
theorem dX7_correct_10 : decode cX7_correct 10 = .ok (.iconst 0, 1) := by decide +kernel
theorem dX7_correct_11 : decode cX7_correct 11 = .ok (.iconst 5, 1) := by decide +kernel
theorem dX7_correct_12 : decode cX7_correct 12 = .ok (.invokestatic 41, 3) := by decide +kernel
theorem dX7_correct_15 : decode cX7_correct 15 = .ok (.ifCond .ne 5, 3) := by decide +kernel
theorem dX7_correct_18 : decode cX7_correct 18 = .ok (.iconst (-1), 1) := by decide +kernel
theorem dX7_correct_19 : decode cX7_correct 19 = .ok (.ireturn, 1) := by decide +kernel
theorem dX7_correct_20 : decode cX7_correct 20 = .ok (.aload_n 0, 1) := by decide +kernel
theorem dX7_correct_21 : decode cX7_correct 21 = .ok (.iload_n 1, 1) := by decide +kernel
theorem dX7_correct_22 : decode cX7_correct 22 = .ok (.iconst 2, 1) := by decide +kernel
theorem dX7_correct_23 : decode cX7_correct 23 = .ok (.invokevirtual 49, 3) := by decide +kernel
theorem dX7_correct_26 : decode cX7_correct 26 = .ok (.iconst 3, 1) := by decide +kernel
theorem dX7_correct_27 : decode cX7_correct 27 = .ok (.if_icmp .eq 6, 3) := by decide +kernel
theorem dX7_correct_30 : decode cX7_correct 30 = .ok (.bipush (-4), 2) := by decide +kernel
theorem dX7_correct_32 : decode cX7_correct 32 = .ok (.ireturn, 1) := by decide +kernel
theorem dX7_correct_33 : decode cX7_correct 33 = .ok (.aload_n 0, 1) := by decide +kernel
theorem dX7_correct_34 : decode cX7_correct 34 = .ok (.getfield 7, 3) := by decide +kernel
theorem dX7_correct_37 : decode cX7_correct 37 = .ok (.iload_n 1, 1) := by decide +kernel
theorem dX7_correct_38 : decode cX7_correct 38 = .ok (.iload_n 2, 1) := by decide +kernel
theorem dX7_correct_39 : decode cX7_correct 39 = .ok (.invokestatic 53, 3) := by decide +kernel
theorem dX7_correct_42 : decode cX7_correct 42 = .ok (.iaload, 1) := by decide +kernel
theorem dX7_correct_43 : decode cX7_correct 43 = .ok (.iload_n 3, 1) := by decide +kernel
theorem dX7_correct_44 : decode cX7_correct 44 = .ok (.if_icmp .ne 6, 3) := by decide +kernel
theorem dX7_correct_47 : decode cX7_correct 47 = .ok (.bipush (-5), 2) := by decide +kernel
theorem dX7_correct_49 : decode cX7_correct 49 = .ok (.ireturn, 1) := by decide +kernel
theorem dX7_correct_50 : decode cX7_correct 50 = .ok (.aload_n 0, 1) := by decide +kernel
theorem dX7_correct_51 : decode cX7_correct 51 = .ok (.invokevirtual 71, 3) := by decide +kernel
theorem dX7_correct_54 : decode cX7_correct 54 = .ok (.aload_n 0, 1) := by decide +kernel
theorem dX7_correct_55 : decode cX7_correct 55 = .ok (.getfield 7, 3) := by decide +kernel
theorem dX7_correct_58 : decode cX7_correct 58 = .ok (.iload_n 1, 1) := by decide +kernel
theorem dX7_correct_59 : decode cX7_correct 59 = .ok (.iload_n 2, 1) := by decide +kernel
theorem dX7_correct_60 : decode cX7_correct 60 = .ok (.invokestatic 53, 3) := by decide +kernel
theorem dX7_correct_63 : decode cX7_correct 63 = .ok (.iload_n 3, 1) := by decide +kernel
theorem dX7_correct_64 : decode cX7_correct 64 = .ok (.iastore, 1) := by decide +kernel
theorem dX7_correct_65 : decode cX7_correct 65 = .ok (.aload_n 0, 1) := by decide +kernel
theorem dX7_correct_66 : decode cX7_correct 66 = .ok (.getfield 7, 3) := by decide +kernel
theorem dX7_correct_69 : decode cX7_correct 69 = .ok (.iconst 3, 1) := by decide +kernel
theorem dX7_correct_70 : decode cX7_correct 70 = .ok (.dup2, 1) := by decide +kernel
theorem dX7_correct_71 : decode cX7_correct 71 = .ok (.iaload, 1) := by decide +kernel
theorem dX7_correct_72 : decode cX7_correct 72 = .ok (.iconst 1, 1) := by decide +kernel
theorem dX7_correct_73 : decode cX7_correct 73 = .ok (.iadd, 1) := by decide +kernel
theorem dX7_correct_74 : decode cX7_correct 74 = .ok (.iastore, 1) := by decide +kernel
theorem dX7_correct_75 : decode cX7_correct 75 = .ok (.aload_n 0, 1) := by decide +kernel
theorem dX7_correct_76 : decode cX7_correct 76 = .ok (.getfield 7, 3) := by decide +kernel
theorem dX7_correct_79 : decode cX7_correct 79 = .ok (.iconst 3, 1) := by decide +kernel
theorem dX7_correct_80 : decode cX7_correct 80 = .ok (.iaload, 1) := by decide +kernel
theorem dX7_correct_81 : decode cX7_correct 81 = .ok (.ireturn, 1) := by decide +kernel
theorem dX7_type_0 : decode cX7_type 0 = .ok (.aload_n 0, 1) := by decide +kernel
theorem dX7_type_1 : decode cX7_type 1 = .ok (.getfield 77, 3) := by decide +kernel
theorem dX7_type_4 : decode cX7_type 4 = .ok (.bipush 60, 2) := by decide +kernel
theorem dX7_type_6 : decode cX7_type 6 = .ok (.if_icmp .ne 6, 3) := by decide +kernel
theorem dX7_type_9 : decode cX7_type 9 = .ok (.bipush (-3), 2) := by decide +kernel
theorem dX7_type_11 : decode cX7_type 11 = .ok (.ireturn, 1) := by decide +kernel
theorem dX7_type_12 : decode cX7_type 12 = .ok (.aload_n 0, 1) := by decide +kernel
theorem dX7_type_13 : decode cX7_type 13 = .ok (.getfield 26, 3) := by decide +kernel
theorem dX7_type_16 : decode cX7_type 16 = .ok (.aload_n 0, 1) := by decide +kernel
theorem dX7_type_17 : decode cX7_type 17 = .ok (.getfield 77, 3) := by decide +kernel
theorem dX7_type_20 : decode cX7_type 20 = .ok (.iload_n 1, 1) := by decide +kernel
theorem dX7_type_21 : decode cX7_type 21 = .ok (.castore, 1) := by decide +kernel
theorem dX7_type_22 : decode cX7_type 22 = .ok (.aload_n 0, 1) := by decide +kernel
theorem dX7_type_23 : decode cX7_type 23 = .ok (.dup, 1) := by decide +kernel
theorem dX7_type_24 : decode cX7_type 24 = .ok (.getfield 77, 3) := by decide +kernel
theorem dX7_type_27 : decode cX7_type 27 = .ok (.iconst 1, 1) := by decide +kernel
theorem dX7_type_28 : decode cX7_type 28 = .ok (.iadd, 1) := by decide +kernel
theorem dX7_type_29 : decode cX7_type 29 = .ok (.putfield 77, 3) := by decide +kernel
theorem dX7_type_32 : decode cX7_type 32 = .ok (.aload_n 0, 1) := by decide +kernel
theorem dX7_type_33 : decode cX7_type 33 = .ok (.getfield 77, 3) := by decide +kernel
theorem dX7_type_36 : decode cX7_type 36 = .ok (.ireturn, 1) := by decide +kernel
theorem dX7_clearText_0 : decode cX7_clearText 0 = .ok (.aload_n 0, 1) := by decide +kernel
theorem dX7_clearText_1 : decode cX7_clearText 1 = .ok (.getfield 77, 3) := by decide +kernel
theorem dX7_clearText_4 : decode cX7_clearText 4 = .ok (.istore_n 1, 1) := by decide +kernel
theorem dX7_clearText_5 : decode cX7_clearText 5 = .ok (.aload_n 0, 1) := by decide +kernel
theorem dX7_clearText_6 : decode cX7_clearText 6 = .ok (.iconst 0, 1) := by decide +kernel
theorem dX7_clearText_7 : decode cX7_clearText 7 = .ok (.putfield 77, 3) := by decide +kernel
theorem dX7_clearText_10 : decode cX7_clearText 10 = .ok (.iload_n 1, 1) := by decide +kernel
theorem dX7_clearText_11 : decode cX7_clearText 11 = .ok (.ireturn, 1) := by decide +kernel
theorem dX7_undo_0 : decode cX7_undo 0 = .ok (.aload_n 0, 1) := by decide +kernel
theorem dX7_undo_1 : decode cX7_undo 1 = .ok (.getfield 33, 3) := by decide +kernel
theorem dX7_undo_4 : decode cX7_undo 4 = .ok (.ifCond .ne 6, 3) := by decide +kernel
theorem dX7_undo_7 : decode cX7_undo 7 = .ok (.bipush (-5), 2) := by decide +kernel
theorem dX7_undo_9 : decode cX7_undo 9 = .ok (.ireturn, 1) := by decide +kernel
theorem dX7_undo_10 : decode cX7_undo 10 = .ok (.aload_n 0, 1) := by decide +kernel
theorem dX7_undo_11 : decode cX7_undo 11 = .ok (.dup, 1) := by decide +kernel
theorem dX7_undo_12 : decode cX7_undo 12 = .ok (.getfield 33, 3) := by decide +kernel
theorem dX7_undo_15 : decode cX7_undo 15 = .ok (.iconst 1, 1) := by decide +kernel
theorem dX7_undo_16 : decode cX7_undo 16 = .ok (.isub, 1) := by decide +kernel
theorem dX7_undo_17 : decode cX7_undo 17 = .ok (.putfield 33, 3) := by decide +kernel
theorem dX7_undo_20 : decode cX7_undo 20 = .ok (.iconst 0, 1) := by decide +kernel
theorem dX7_undo_21 : decode cX7_undo 21 = .ok (.istore_n 1, 1) := by decide +kernel
theorem dX7_undo_22 : decode cX7_undo 22 = .ok (.iload_n 1, 1) := by decide +kernel
theorem dX7_undo_23 : decode cX7_undo 23 = .ok (.sipush 656, 3) := by decide +kernel
theorem dX7_undo_26 : decode cX7_undo 26 = .ok (.if_icmp .ge 30, 3) := by decide +kernel
theorem dX7_undo_29 : decode cX7_undo 29 = .ok (.aload_n 0, 1) := by decide +kernel
theorem dX7_undo_30 : decode cX7_undo 30 = .ok (.getfield 7, 3) := by decide +kernel
theorem dX7_undo_33 : decode cX7_undo 33 = .ok (.iload_n 1, 1) := by decide +kernel
theorem dX7_undo_34 : decode cX7_undo 34 = .ok (.aload_n 0, 1) := by decide +kernel
theorem dX7_undo_35 : decode cX7_undo 35 = .ok (.getfield 13, 3) := by decide +kernel
theorem dX7_undo_38 : decode cX7_undo 38 = .ok (.sipush 656, 3) := by decide +kernel
theorem dX7_undo_41 : decode cX7_undo 41 = .ok (.aload_n 0, 1) := by decide +kernel
theorem dX7_undo_42 : decode cX7_undo 42 = .ok (.getfield 33, 3) := by decide +kernel
theorem dX7_undo_45 : decode cX7_undo 45 = .ok (.imul, 1) := by decide +kernel
theorem dX7_undo_46 : decode cX7_undo 46 = .ok (.iload_n 1, 1) := by decide +kernel
theorem dX7_undo_47 : decode cX7_undo 47 = .ok (.iadd, 1) := by decide +kernel
theorem dX7_undo_48 : decode cX7_undo 48 = .ok (.iaload, 1) := by decide +kernel
theorem dX7_undo_49 : decode cX7_undo 49 = .ok (.iastore, 1) := by decide +kernel
theorem dX7_undo_50 : decode cX7_undo 50 = .ok (.iinc 1 1, 3) := by decide +kernel
theorem dX7_undo_53 : decode cX7_undo 53 = .ok (.goto (-31), 3) := by decide +kernel
theorem dX7_undo_56 : decode cX7_undo 56 = .ok (.aload_n 0, 1) := by decide +kernel
theorem dX7_undo_57 : decode cX7_undo 57 = .ok (.getfield 33, 3) := by decide +kernel
theorem dX7_undo_60 : decode cX7_undo 60 = .ok (.ireturn, 1) := by decide +kernel
theorem dX7_keep_0 : decode cX7_keep 0 = .ok (.iconst 0, 1) := by decide +kernel
theorem dX7_keep_1 : decode cX7_keep 1 = .ok (.istore_n 1, 1) := by decide +kernel
theorem dX7_keep_2 : decode cX7_keep 2 = .ok (.iload_n 1, 1) := by decide +kernel
theorem dX7_keep_3 : decode cX7_keep 3 = .ok (.sipush 656, 3) := by decide +kernel
theorem dX7_keep_6 : decode cX7_keep 6 = .ok (.if_icmp .ge 21, 3) := by decide +kernel
theorem dX7_keep_9 : decode cX7_keep 9 = .ok (.aload_n 0, 1) := by decide +kernel
theorem dX7_keep_10 : decode cX7_keep 10 = .ok (.getfield 16, 3) := by decide +kernel
theorem dX7_keep_13 : decode cX7_keep 13 = .ok (.iload_n 1, 1) := by decide +kernel
theorem dX7_keep_14 : decode cX7_keep 14 = .ok (.aload_n 0, 1) := by decide +kernel
theorem dX7_keep_15 : decode cX7_keep 15 = .ok (.getfield 7, 3) := by decide +kernel
theorem dX7_keep_18 : decode cX7_keep 18 = .ok (.iload_n 1, 1) := by decide +kernel
theorem dX7_keep_19 : decode cX7_keep 19 = .ok (.iaload, 1) := by decide +kernel
theorem dX7_keep_20 : decode cX7_keep 20 = .ok (.iastore, 1) := by decide +kernel
theorem dX7_keep_21 : decode cX7_keep 21 = .ok (.iinc 1 1, 3) := by decide +kernel
theorem dX7_keep_24 : decode cX7_keep 24 = .ok (.goto (-22), 3) := by decide +kernel
theorem dX7_keep_27 : decode cX7_keep 27 = .ok (.aload_n 0, 1) := by decide +kernel
theorem dX7_keep_28 : decode cX7_keep 28 = .ok (.iconst 1, 1) := by decide +kernel
theorem dX7_keep_29 : decode cX7_keep 29 = .ok (.putfield 153, 3) := by decide +kernel
theorem dX7_keep_32 : decode cX7_keep 32 = .ok (.aload_n 0, 1) := by decide +kernel
theorem dX7_keep_33 : decode cX7_keep 33 = .ok (.getfield 7, 3) := by decide +kernel
theorem dX7_keep_36 : decode cX7_keep 36 = .ok (.iconst 0, 1) := by decide +kernel
theorem dX7_keep_37 : decode cX7_keep 37 = .ok (.iaload, 1) := by decide +kernel
theorem dX7_keep_38 : decode cX7_keep 38 = .ok (.ireturn, 1) := by decide +kernel
theorem dX7_restore_0 : decode cX7_restore 0 = .ok (.aload_n 0, 1) := by decide +kernel
theorem dX7_restore_1 : decode cX7_restore 1 = .ok (.getfield 153, 3) := by decide +kernel
theorem dX7_restore_4 : decode cX7_restore 4 = .ok (.ifCond .ne 6, 3) := by decide +kernel
theorem dX7_restore_7 : decode cX7_restore 7 = .ok (.bipush (-5), 2) := by decide +kernel
theorem dX7_restore_9 : decode cX7_restore 9 = .ok (.ireturn, 1) := by decide +kernel
theorem dX7_restore_10 : decode cX7_restore 10 = .ok (.aload_n 0, 1) := by decide +kernel
theorem dX7_restore_11 : decode cX7_restore 11 = .ok (.invokevirtual 71, 3) := by decide +kernel
theorem dX7_restore_14 : decode cX7_restore 14 = .ok (.iconst 0, 1) := by decide +kernel
theorem dX7_restore_15 : decode cX7_restore 15 = .ok (.istore_n 1, 1) := by decide +kernel
theorem dX7_restore_16 : decode cX7_restore 16 = .ok (.iload_n 1, 1) := by decide +kernel
theorem dX7_restore_17 : decode cX7_restore 17 = .ok (.sipush 656, 3) := by decide +kernel
theorem dX7_restore_20 : decode cX7_restore 20 = .ok (.if_icmp .ge 21, 3) := by decide +kernel
theorem dX7_restore_23 : decode cX7_restore 23 = .ok (.aload_n 0, 1) := by decide +kernel
theorem dX7_restore_24 : decode cX7_restore 24 = .ok (.getfield 7, 3) := by decide +kernel
theorem dX7_restore_27 : decode cX7_restore 27 = .ok (.iload_n 1, 1) := by decide +kernel
theorem dX7_restore_28 : decode cX7_restore 28 = .ok (.aload_n 0, 1) := by decide +kernel
theorem dX7_restore_29 : decode cX7_restore 29 = .ok (.getfield 16, 3) := by decide +kernel
theorem dX7_restore_32 : decode cX7_restore 32 = .ok (.iload_n 1, 1) := by decide +kernel
theorem dX7_restore_33 : decode cX7_restore 33 = .ok (.iaload, 1) := by decide +kernel
theorem dX7_restore_34 : decode cX7_restore 34 = .ok (.iastore, 1) := by decide +kernel
theorem dX7_restore_35 : decode cX7_restore 35 = .ok (.iinc 1 1, 3) := by decide +kernel
theorem dX7_restore_38 : decode cX7_restore 38 = .ok (.goto (-22), 3) := by decide +kernel
theorem dX7_restore_41 : decode cX7_restore 41 = .ok (.aload_n 0, 1) := by decide +kernel
theorem dX7_restore_42 : decode cX7_restore 42 = .ok (.getfield 7, 3) := by decide +kernel
theorem dX7_restore_45 : decode cX7_restore 45 = .ok (.iconst 0, 1) := by decide +kernel
theorem dX7_restore_46 : decode cX7_restore 46 = .ok (.iaload, 1) := by decide +kernel
theorem dX7_restore_47 : decode cX7_restore 47 = .ok (.ireturn, 1) := by decide +kernel
theorem dX7_person_0 : decode cX7_person 0 = .ok (.aload_n 0, 1) := by decide +kernel
theorem dX7_person_1 : decode cX7_person 1 = .ok (.iload_n 1, 1) := by decide +kernel
theorem dX7_person_2 : decode cX7_person 2 = .ok (.invokevirtual 45, 3) := by decide +kernel
theorem dX7_person_5 : decode cX7_person 5 = .ok (.ifCond .ne 5, 3) := by decide +kernel
theorem dX7_person_8 : decode cX7_person 8 = .ok (.iconst (-1), 1) := by decide +kernel
theorem dX7_person_9 : decode cX7_person 9 = .ok (.ireturn, 1) := by decide +kernel
theorem dX7_person_10 : decode cX7_person 10 = .ok (.iload_n 2, 1) := by decide +kernel
theorem dX7_person_11 : decode cX7_person 11 = .ok (.tableswitch 172 0 10 #[57, 64, 71, 78, 85, 91, 103, 109, 129, 150, 158], 57) := by decide +kernel
theorem dX7_person_68 : decode cX7_person 68 = .ok (.aload_n 0, 1) := by decide +kernel
theorem dX7_person_69 : decode cX7_person 69 = .ok (.iload_n 1, 1) := by decide +kernel
theorem dX7_person_70 : decode cX7_person 70 = .ok (.iconst 0, 1) := by decide +kernel
theorem dX7_person_71 : decode cX7_person 71 = .ok (.invokevirtual 49, 3) := by decide +kernel
theorem dX7_person_74 : decode cX7_person 74 = .ok (.ireturn, 1) := by decide +kernel
theorem dX7_person_75 : decode cX7_person 75 = .ok (.aload_n 0, 1) := by decide +kernel
theorem dX7_person_76 : decode cX7_person 76 = .ok (.iload_n 1, 1) := by decide +kernel
theorem dX7_person_77 : decode cX7_person 77 = .ok (.iconst 1, 1) := by decide +kernel
theorem dX7_person_78 : decode cX7_person 78 = .ok (.invokevirtual 49, 3) := by decide +kernel
theorem dX7_person_81 : decode cX7_person 81 = .ok (.ireturn, 1) := by decide +kernel
theorem dX7_person_82 : decode cX7_person 82 = .ok (.aload_n 0, 1) := by decide +kernel
theorem dX7_person_83 : decode cX7_person 83 = .ok (.iload_n 1, 1) := by decide +kernel
theorem dX7_person_84 : decode cX7_person 84 = .ok (.iconst 2, 1) := by decide +kernel
theorem dX7_person_85 : decode cX7_person 85 = .ok (.invokevirtual 49, 3) := by decide +kernel
theorem dX7_person_88 : decode cX7_person 88 = .ok (.ireturn, 1) := by decide +kernel
theorem dX7_person_89 : decode cX7_person 89 = .ok (.aload_n 0, 1) := by decide +kernel
theorem dX7_person_90 : decode cX7_person 90 = .ok (.iload_n 1, 1) := by decide +kernel
theorem dX7_person_91 : decode cX7_person 91 = .ok (.iconst 3, 1) := by decide +kernel
theorem dX7_person_92 : decode cX7_person 92 = .ok (.invokevirtual 49, 3) := by decide +kernel
theorem dX7_person_95 : decode cX7_person 95 = .ok (.ireturn, 1) := by decide +kernel
theorem dX7_person_96 : decode cX7_person 96 = .ok (.aload_n 0, 1) := by decide +kernel
theorem dX7_person_97 : decode cX7_person 97 = .ok (.iload_n 1, 1) := by decide +kernel
theorem dX7_person_98 : decode cX7_person 98 = .ok (.invokevirtual 147, 3) := by decide +kernel
theorem dX7_person_101 : decode cX7_person 101 = .ok (.ireturn, 1) := by decide +kernel
theorem dX7_person_102 : decode cX7_person 102 = .ok (.aload_n 0, 1) := by decide +kernel
theorem dX7_person_103 : decode cX7_person 103 = .ok (.iload_n 1, 1) := by decide +kernel
theorem dX7_person_104 : decode cX7_person 104 = .ok (.aload_n 0, 1) := by decide +kernel
theorem dX7_person_105 : decode cX7_person 105 = .ok (.getfield 7, 3) := by decide +kernel
theorem dX7_person_108 : decode cX7_person 108 = .ok (.iconst 0, 1) := by decide +kernel
theorem dX7_person_109 : decode cX7_person 109 = .ok (.iaload, 1) := by decide +kernel
theorem dX7_person_110 : decode cX7_person 110 = .ok (.invokevirtual 68, 3) := by decide +kernel
theorem dX7_person_113 : decode cX7_person 113 = .ok (.ireturn, 1) := by decide +kernel
theorem dX7_person_114 : decode cX7_person 114 = .ok (.aload_n 0, 1) := by decide +kernel
theorem dX7_person_115 : decode cX7_person 115 = .ok (.iload_n 1, 1) := by decide +kernel
theorem dX7_person_116 : decode cX7_person 116 = .ok (.invokevirtual 65, 3) := by decide +kernel
theorem dX7_person_119 : decode cX7_person 119 = .ok (.ireturn, 1) := by decide +kernel
theorem dX7_person_120 : decode cX7_person 120 = .ok (.aload_n 0, 1) := by decide +kernel
theorem dX7_person_121 : decode cX7_person 121 = .ok (.iload_n 1, 1) := by decide +kernel
theorem dX7_person_122 : decode cX7_person 122 = .ok (.iconst 2, 1) := by decide +kernel
theorem dX7_person_123 : decode cX7_person 123 = .ok (.invokevirtual 49, 3) := by decide +kernel
theorem dX7_person_126 : decode cX7_person 126 = .ok (.ifCond .ne 11, 3) := by decide +kernel
theorem dX7_person_129 : decode cX7_person 129 = .ok (.aload_n 0, 1) := by decide +kernel
theorem dX7_person_130 : decode cX7_person 130 = .ok (.iload_n 1, 1) := by decide +kernel
theorem dX7_person_131 : decode cX7_person 131 = .ok (.invokevirtual 123, 3) := by decide +kernel
theorem dX7_person_134 : decode cX7_person 134 = .ok (.goto 5, 3) := by decide +kernel
theorem dX7_person_137 : decode cX7_person 137 = .ok (.bipush (-5), 2) := by decide +kernel
theorem dX7_person_139 : decode cX7_person 139 = .ok (.ireturn, 1) := by decide +kernel
theorem dX7_person_140 : decode cX7_person 140 = .ok (.aload_n 0, 1) := by decide +kernel
theorem dX7_person_141 : decode cX7_person 141 = .ok (.iload_n 1, 1) := by decide +kernel
theorem dX7_person_142 : decode cX7_person 142 = .ok (.iconst 2, 1) := by decide +kernel
theorem dX7_person_143 : decode cX7_person 143 = .ok (.invokevirtual 49, 3) := by decide +kernel
theorem dX7_person_146 : decode cX7_person 146 = .ok (.ifCond .ne 8, 3) := by decide +kernel
theorem dX7_person_149 : decode cX7_person 149 = .ok (.bipush (-5), 2) := by decide +kernel
theorem dX7_person_151 : decode cX7_person 151 = .ok (.goto 9, 3) := by decide +kernel
theorem dX7_person_154 : decode cX7_person 154 = .ok (.aload_n 0, 1) := by decide +kernel
theorem dX7_person_155 : decode cX7_person 155 = .ok (.iload_n 1, 1) := by decide +kernel
theorem dX7_person_156 : decode cX7_person 156 = .ok (.iconst 4, 1) := by decide +kernel
theorem dX7_person_157 : decode cX7_person 157 = .ok (.invokevirtual 49, 3) := by decide +kernel
theorem dX7_person_160 : decode cX7_person 160 = .ok (.ireturn, 1) := by decide +kernel
theorem dX7_person_161 : decode cX7_person 161 = .ok (.aload_n 0, 1) := by decide +kernel
theorem dX7_person_162 : decode cX7_person 162 = .ok (.iload_n 1, 1) := by decide +kernel
theorem dX7_person_163 : decode cX7_person 163 = .ok (.bipush 6, 2) := by decide +kernel
theorem dX7_person_165 : decode cX7_person 165 = .ok (.invokevirtual 49, 3) := by decide +kernel
theorem dX7_person_168 : decode cX7_person 168 = .ok (.ireturn, 1) := by decide +kernel
theorem dX7_person_169 : decode cX7_person 169 = .ok (.aload_n 0, 1) := by decide +kernel
theorem dX7_person_170 : decode cX7_person 170 = .ok (.iload_n 1, 1) := by decide +kernel
theorem dX7_person_171 : decode cX7_person 171 = .ok (.invokevirtual 141, 3) := by decide +kernel
theorem dX7_person_174 : decode cX7_person 174 = .ok (.ifCond .eq 7, 3) := by decide +kernel
theorem dX7_person_177 : decode cX7_person 177 = .ok (.iconst 1, 1) := by decide +kernel
theorem dX7_person_178 : decode cX7_person 178 = .ok (.goto 4, 3) := by decide +kernel
theorem dX7_person_181 : decode cX7_person 181 = .ok (.iconst 0, 1) := by decide +kernel
theorem dX7_person_182 : decode cX7_person 182 = .ok (.ireturn, 1) := by decide +kernel
theorem dX7_person_183 : decode cX7_person 183 = .ok (.bipush (-2), 2) := by decide +kernel
theorem dX7_person_185 : decode cX7_person 185 = .ok (.ireturn, 1) := by decide +kernel
theorem dX7_fact_0 : decode cX7_fact 0 = .ok (.aload_n 0, 1) := by decide +kernel
theorem dX7_fact_1 : decode cX7_fact 1 = .ok (.iload_n 1, 1) := by decide +kernel
theorem dX7_fact_2 : decode cX7_fact 2 = .ok (.iload_n 2, 1) := by decide +kernel
theorem dX7_fact_3 : decode cX7_fact 3 = .ok (.invokevirtual 116, 3) := by decide +kernel
theorem dX7_fact_6 : decode cX7_fact 6 = .ok (.ifCond .ne 5, 3) := by decide +kernel
theorem dX7_fact_9 : decode cX7_fact 9 = .ok (.iconst (-1), 1) := by decide +kernel
theorem dX7_fact_10 : decode cX7_fact 10 = .ok (.ireturn, 1) := by decide +kernel
theorem dX7_fact_11 : decode cX7_fact 11 = .ok (.iload_n 3, 1) := by decide +kernel
theorem dX7_fact_12 : decode cX7_fact 12 = .ok (.tableswitch 86 0 4 #[36, 36, 36, 49, 70], 36) := by decide +kernel
theorem dX7_fact_48 : decode cX7_fact 48 = .ok (.aload_n 0, 1) := by decide +kernel
theorem dX7_fact_49 : decode cX7_fact 49 = .ok (.getfield 7, 3) := by decide +kernel
theorem dX7_fact_52 : decode cX7_fact 52 = .ok (.iload_n 1, 1) := by decide +kernel
theorem dX7_fact_53 : decode cX7_fact 53 = .ok (.iload_n 2, 1) := by decide +kernel
theorem dX7_fact_54 : decode cX7_fact 54 = .ok (.invokestatic 53, 3) := by decide +kernel
theorem dX7_fact_57 : decode cX7_fact 57 = .ok (.iload_n 3, 1) := by decide +kernel
theorem dX7_fact_58 : decode cX7_fact 58 = .ok (.iadd, 1) := by decide +kernel
theorem dX7_fact_59 : decode cX7_fact 59 = .ok (.iaload, 1) := by decide +kernel
theorem dX7_fact_60 : decode cX7_fact 60 = .ok (.ireturn, 1) := by decide +kernel
theorem dX7_fact_61 : decode cX7_fact 61 = .ok (.aload_n 0, 1) := by decide +kernel
theorem dX7_fact_62 : decode cX7_fact 62 = .ok (.iload_n 1, 1) := by decide +kernel
theorem dX7_fact_63 : decode cX7_fact 63 = .ok (.iload_n 2, 1) := by decide +kernel
theorem dX7_fact_64 : decode cX7_fact 64 = .ok (.aload_n 0, 1) := by decide +kernel
theorem dX7_fact_65 : decode cX7_fact 65 = .ok (.getfield 7, 3) := by decide +kernel
theorem dX7_fact_68 : decode cX7_fact 68 = .ok (.iconst 0, 1) := by decide +kernel
theorem dX7_fact_69 : decode cX7_fact 69 = .ok (.iaload, 1) := by decide +kernel
theorem dX7_fact_70 : decode cX7_fact 70 = .ok (.invokevirtual 62, 3) := by decide +kernel
theorem dX7_fact_73 : decode cX7_fact 73 = .ok (.ifCond .eq 7, 3) := by decide +kernel
theorem dX7_fact_76 : decode cX7_fact 76 = .ok (.iconst 1, 1) := by decide +kernel
theorem dX7_fact_77 : decode cX7_fact 77 = .ok (.goto 4, 3) := by decide +kernel
theorem dX7_fact_80 : decode cX7_fact 80 = .ok (.iconst 0, 1) := by decide +kernel
theorem dX7_fact_81 : decode cX7_fact 81 = .ok (.ireturn, 1) := by decide +kernel
theorem dX7_fact_82 : decode cX7_fact 82 = .ok (.aload_n 0, 1) := by decide +kernel
theorem dX7_fact_83 : decode cX7_fact 83 = .ok (.iload_n 1, 1) := by decide +kernel
theorem dX7_fact_84 : decode cX7_fact 84 = .ok (.iload_n 2, 1) := by decide +kernel
theorem dX7_fact_85 : decode cX7_fact 85 = .ok (.aload_n 0, 1) := by decide +kernel
theorem dX7_fact_86 : decode cX7_fact 86 = .ok (.getfield 7, 3) := by decide +kernel
theorem dX7_fact_89 : decode cX7_fact 89 = .ok (.iconst 0, 1) := by decide +kernel
theorem dX7_fact_90 : decode cX7_fact 90 = .ok (.iaload, 1) := by decide +kernel
theorem dX7_fact_91 : decode cX7_fact 91 = .ok (.invokevirtual 58, 3) := by decide +kernel
theorem dX7_fact_94 : decode cX7_fact 94 = .ok (.invokestatic 157, 3) := by decide +kernel
theorem dX7_fact_97 : decode cX7_fact 97 = .ok (.ireturn, 1) := by decide +kernel
theorem dX7_fact_98 : decode cX7_fact 98 = .ok (.bipush (-2), 2) := by decide +kernel
theorem dX7_fact_100 : decode cX7_fact 100 = .ok (.ireturn, 1) := by decide +kernel
theorem dX7_worth_0 : decode cX7_worth 0 = .ok (.aload_n 0, 1) := by decide +kernel
theorem dX7_worth_1 : decode cX7_worth 1 = .ok (.iload_n 1, 1) := by decide +kernel
theorem dX7_worth_2 : decode cX7_worth 2 = .ok (.invokevirtual 45, 3) := by decide +kernel
theorem dX7_worth_5 : decode cX7_worth 5 = .ok (.ifCond .ne 6, 3) := by decide +kernel
theorem dX7_worth_8 : decode cX7_worth 8 = .ok (.ldc 163, 2) := by decide +kernel
theorem dX7_worth_10 : decode cX7_worth 10 = .ok (.freturn, 1) := by decide +kernel
theorem dX7_worth_11 : decode cX7_worth 11 = .ok (.fconst 0, 1) := by decide +kernel
theorem dX7_worth_12 : decode cX7_worth 12 = .ok (.fstore_n 2, 1) := by decide +kernel
theorem dX7_worth_13 : decode cX7_worth 13 = .ok (.iconst 0, 1) := by decide +kernel
theorem dX7_worth_14 : decode cX7_worth 14 = .ok (.istore_n 3, 1) := by decide +kernel
theorem dX7_worth_15 : decode cX7_worth 15 = .ok (.iload_n 3, 1) := by decide +kernel
theorem dX7_worth_16 : decode cX7_worth 16 = .ok (.aload_n 0, 1) := by decide +kernel
theorem dX7_worth_17 : decode cX7_worth 17 = .ok (.iload_n 1, 1) := by decide +kernel
theorem dX7_worth_18 : decode cX7_worth 18 = .ok (.iconst 3, 1) := by decide +kernel
theorem dX7_worth_19 : decode cX7_worth 19 = .ok (.invokevirtual 49, 3) := by decide +kernel
theorem dX7_worth_22 : decode cX7_worth 22 = .ok (.if_icmp .ge 38, 3) := by decide +kernel
theorem dX7_worth_25 : decode cX7_worth 25 = .ok (.fload_n 2, 1) := by decide +kernel
theorem dX7_worth_26 : decode cX7_worth 26 = .ok (.aload_n 0, 1) := by decide +kernel
theorem dX7_worth_27 : decode cX7_worth 27 = .ok (.iload_n 1, 1) := by decide +kernel
theorem dX7_worth_28 : decode cX7_worth 28 = .ok (.iload_n 3, 1) := by decide +kernel
theorem dX7_worth_29 : decode cX7_worth 29 = .ok (.aload_n 0, 1) := by decide +kernel
theorem dX7_worth_30 : decode cX7_worth 30 = .ok (.getfield 7, 3) := by decide +kernel
theorem dX7_worth_33 : decode cX7_worth 33 = .ok (.iconst 0, 1) := by decide +kernel
theorem dX7_worth_34 : decode cX7_worth 34 = .ok (.iaload, 1) := by decide +kernel
theorem dX7_worth_35 : decode cX7_worth 35 = .ok (.invokevirtual 58, 3) := by decide +kernel
theorem dX7_worth_38 : decode cX7_worth 38 = .ok (.aload_n 0, 1) := by decide +kernel
theorem dX7_worth_39 : decode cX7_worth 39 = .ok (.getfield 7, 3) := by decide +kernel
theorem dX7_worth_42 : decode cX7_worth 42 = .ok (.iload_n 1, 1) := by decide +kernel
theorem dX7_worth_43 : decode cX7_worth 43 = .ok (.iload_n 3, 1) := by decide +kernel
theorem dX7_worth_44 : decode cX7_worth 44 = .ok (.invokestatic 53, 3) := by decide +kernel
theorem dX7_worth_47 : decode cX7_worth 47 = .ok (.iconst 1, 1) := by decide +kernel
theorem dX7_worth_48 : decode cX7_worth 48 = .ok (.iadd, 1) := by decide +kernel
theorem dX7_worth_49 : decode cX7_worth 49 = .ok (.iaload, 1) := by decide +kernel
theorem dX7_worth_50 : decode cX7_worth 50 = .ok (.i2f, 1) := by decide +kernel
theorem dX7_worth_51 : decode cX7_worth 51 = .ok (.fmul, 1) := by decide +kernel
theorem dX7_worth_52 : decode cX7_worth 52 = .ok (.fadd, 1) := by decide +kernel
theorem dX7_worth_53 : decode cX7_worth 53 = .ok (.fstore_n 2, 1) := by decide +kernel
theorem dX7_worth_54 : decode cX7_worth 54 = .ok (.iinc 3 1, 3) := by decide +kernel
theorem dX7_worth_57 : decode cX7_worth 57 = .ok (.goto (-42), 3) := by decide +kernel
theorem dX7_worth_60 : decode cX7_worth 60 = .ok (.fload_n 2, 1) := by decide +kernel
theorem dX7_worth_61 : decode cX7_worth 61 = .ok (.freturn, 1) := by decide +kernel
theorem dX7_urgent_0 : decode cX7_urgent 0 = .ok (.iload_n 1, 1) := by decide +kernel
theorem dX7_urgent_1 : decode cX7_urgent 1 = .ok (.ifCond .ge 6, 3) := by decide +kernel
theorem dX7_urgent_4 : decode cX7_urgent 4 = .ok (.bipush (-2), 2) := by decide +kernel
theorem dX7_urgent_6 : decode cX7_urgent 6 = .ok (.ireturn, 1) := by decide +kernel
theorem dX7_urgent_7 : decode cX7_urgent 7 = .ok (.bipush (-5), 2) := by decide +kernel
theorem dX7_urgent_9 : decode cX7_urgent 9 = .ok (.istore_n 2, 1) := by decide +kernel
theorem dX7_urgent_10 : decode cX7_urgent 10 = .ok (.iconst 0, 1) := by decide +kernel
theorem dX7_urgent_11 : decode cX7_urgent 11 = .ok (.istore_n 3, 1) := by decide +kernel
theorem dX7_urgent_12 : decode cX7_urgent 12 = .ok (.iload_n 3, 1) := by decide +kernel
theorem dX7_urgent_13 : decode cX7_urgent 13 = .ok (.aload_n 0, 1) := by decide +kernel
theorem dX7_urgent_14 : decode cX7_urgent 14 = .ok (.getfield 7, 3) := by decide +kernel
theorem dX7_urgent_17 : decode cX7_urgent 17 = .ok (.iconst 1, 1) := by decide +kernel
theorem dX7_urgent_18 : decode cX7_urgent 18 = .ok (.iaload, 1) := by decide +kernel
theorem dX7_urgent_19 : decode cX7_urgent 19 = .ok (.if_icmp .ge 112, 3) := by decide +kernel
theorem dX7_urgent_22 : decode cX7_urgent 22 = .ok (.iconst 0, 1) := by decide +kernel
theorem dX7_urgent_23 : decode cX7_urgent 23 = .ok (.istore 4, 2) := by decide +kernel
theorem dX7_urgent_25 : decode cX7_urgent 25 = .ok (.iconst 0, 1) := by decide +kernel
theorem dX7_urgent_26 : decode cX7_urgent 26 = .ok (.istore 5, 2) := by decide +kernel
theorem dX7_urgent_28 : decode cX7_urgent 28 = .ok (.iload 5, 2) := by decide +kernel
theorem dX7_urgent_30 : decode cX7_urgent 30 = .ok (.aload_n 0, 1) := by decide +kernel
theorem dX7_urgent_31 : decode cX7_urgent 31 = .ok (.getfield 7, 3) := by decide +kernel
theorem dX7_urgent_34 : decode cX7_urgent 34 = .ok (.iconst 1, 1) := by decide +kernel
theorem dX7_urgent_35 : decode cX7_urgent 35 = .ok (.iaload, 1) := by decide +kernel
theorem dX7_urgent_36 : decode cX7_urgent 36 = .ok (.if_icmp .ge 68, 3) := by decide +kernel
theorem dX7_urgent_39 : decode cX7_urgent 39 = .ok (.aload_n 0, 1) := by decide +kernel
theorem dX7_urgent_40 : decode cX7_urgent 40 = .ok (.iload_n 3, 1) := by decide +kernel
theorem dX7_urgent_41 : decode cX7_urgent 41 = .ok (.iconst 2, 1) := by decide +kernel
theorem dX7_urgent_42 : decode cX7_urgent 42 = .ok (.invokevirtual 49, 3) := by decide +kernel
theorem dX7_urgent_45 : decode cX7_urgent 45 = .ok (.ifCond .ne 59, 3) := by decide +kernel
theorem dX7_urgent_48 : decode cX7_urgent 48 = .ok (.aload_n 0, 1) := by decide +kernel
theorem dX7_urgent_49 : decode cX7_urgent 49 = .ok (.iload 5, 2) := by decide +kernel
theorem dX7_urgent_51 : decode cX7_urgent 51 = .ok (.invokevirtual 123, 3) := by decide +kernel
theorem dX7_urgent_54 : decode cX7_urgent 54 = .ok (.aload_n 0, 1) := by decide +kernel
theorem dX7_urgent_55 : decode cX7_urgent 55 = .ok (.iload_n 3, 1) := by decide +kernel
theorem dX7_urgent_56 : decode cX7_urgent 56 = .ok (.invokevirtual 123, 3) := by decide +kernel
theorem dX7_urgent_59 : decode cX7_urgent 59 = .ok (.isub, 1) := by decide +kernel
theorem dX7_urgent_60 : decode cX7_urgent 60 = .ok (.istore 6, 2) := by decide +kernel
theorem dX7_urgent_62 : decode cX7_urgent 62 = .ok (.iload 4, 2) := by decide +kernel
theorem dX7_urgent_64 : decode cX7_urgent 64 = .ok (.aload_n 0, 1) := by decide +kernel
theorem dX7_urgent_65 : decode cX7_urgent 65 = .ok (.iload 5, 2) := by decide +kernel
theorem dX7_urgent_67 : decode cX7_urgent 67 = .ok (.iconst 2, 1) := by decide +kernel
theorem dX7_urgent_68 : decode cX7_urgent 68 = .ok (.invokevirtual 49, 3) := by decide +kernel
theorem dX7_urgent_71 : decode cX7_urgent 71 = .ok (.ifCond .ne 23, 3) := by decide +kernel
theorem dX7_urgent_74 : decode cX7_urgent 74 = .ok (.iload 6, 2) := by decide +kernel
theorem dX7_urgent_76 : decode cX7_urgent 76 = .ok (.ifCond .gt 14, 3) := by decide +kernel
theorem dX7_urgent_79 : decode cX7_urgent 79 = .ok (.iload 6, 2) := by decide +kernel
theorem dX7_urgent_81 : decode cX7_urgent 81 = .ok (.ifCond .ne 13, 3) := by decide +kernel
theorem dX7_urgent_84 : decode cX7_urgent 84 = .ok (.iload 5, 2) := by decide +kernel
theorem dX7_urgent_86 : decode cX7_urgent 86 = .ok (.iload_n 3, 1) := by decide +kernel
theorem dX7_urgent_87 : decode cX7_urgent 87 = .ok (.if_icmp .ge 7, 3) := by decide +kernel
theorem dX7_urgent_90 : decode cX7_urgent 90 = .ok (.iconst 1, 1) := by decide +kernel
theorem dX7_urgent_91 : decode cX7_urgent 91 = .ok (.goto 4, 3) := by decide +kernel
theorem dX7_urgent_94 : decode cX7_urgent 94 = .ok (.iconst 0, 1) := by decide +kernel
theorem dX7_urgent_95 : decode cX7_urgent 95 = .ok (.iadd, 1) := by decide +kernel
theorem dX7_urgent_96 : decode cX7_urgent 96 = .ok (.istore 4, 2) := by decide +kernel
theorem dX7_urgent_98 : decode cX7_urgent 98 = .ok (.iinc 5 1, 3) := by decide +kernel
theorem dX7_urgent_101 : decode cX7_urgent 101 = .ok (.goto (-73), 3) := by decide +kernel
theorem dX7_urgent_104 : decode cX7_urgent 104 = .ok (.aload_n 0, 1) := by decide +kernel
theorem dX7_urgent_105 : decode cX7_urgent 105 = .ok (.iload_n 3, 1) := by decide +kernel
theorem dX7_urgent_106 : decode cX7_urgent 106 = .ok (.iconst 2, 1) := by decide +kernel
theorem dX7_urgent_107 : decode cX7_urgent 107 = .ok (.invokevirtual 49, 3) := by decide +kernel
theorem dX7_urgent_110 : decode cX7_urgent 110 = .ok (.ifCond .ne 13, 3) := by decide +kernel
theorem dX7_urgent_113 : decode cX7_urgent 113 = .ok (.iload 4, 2) := by decide +kernel
theorem dX7_urgent_115 : decode cX7_urgent 115 = .ok (.iload_n 1, 1) := by decide +kernel
theorem dX7_urgent_116 : decode cX7_urgent 116 = .ok (.if_icmp .ne 7, 3) := by decide +kernel
theorem dX7_urgent_119 : decode cX7_urgent 119 = .ok (.iload_n 3, 1) := by decide +kernel
theorem dX7_urgent_120 : decode cX7_urgent 120 = .ok (.goto 4, 3) := by decide +kernel
theorem dX7_urgent_123 : decode cX7_urgent 123 = .ok (.iload_n 2, 1) := by decide +kernel
theorem dX7_urgent_124 : decode cX7_urgent 124 = .ok (.istore_n 2, 1) := by decide +kernel
theorem dX7_urgent_125 : decode cX7_urgent 125 = .ok (.iinc 3 1, 3) := by decide +kernel
theorem dX7_urgent_128 : decode cX7_urgent 128 = .ok (.goto (-116), 3) := by decide +kernel
theorem dX7_urgent_131 : decode cX7_urgent 131 = .ok (.iload_n 2, 1) := by decide +kernel
theorem dX7_urgent_132 : decode cX7_urgent 132 = .ok (.ireturn, 1) := by decide +kernel
theorem dX7_page_0 : decode cX7_page 0 = .ok (.iload_n 1, 1) := by decide +kernel
theorem dX7_page_1 : decode cX7_page 1 = .ok (.ifCond .ge 6, 3) := by decide +kernel
theorem dX7_page_4 : decode cX7_page 4 = .ok (.bipush (-2), 2) := by decide +kernel
theorem dX7_page_6 : decode cX7_page 6 = .ok (.ireturn, 1) := by decide +kernel
theorem dX7_page_7 : decode cX7_page 7 = .ok (.aload_n 0, 1) := by decide +kernel
theorem dX7_page_8 : decode cX7_page 8 = .ok (.invokevirtual 150, 3) := by decide +kernel
theorem dX7_page_11 : decode cX7_page 11 = .ok (.iload_n 1, 1) := by decide +kernel
theorem dX7_page_12 : decode cX7_page 12 = .ok (.aload_n 0, 1) := by decide +kernel
theorem dX7_page_13 : decode cX7_page 13 = .ok (.getfield 135, 3) := by decide +kernel
theorem dX7_page_16 : decode cX7_page 16 = .ok (.if_icmp .ge 12, 3) := by decide +kernel
theorem dX7_page_19 : decode cX7_page 19 = .ok (.aload_n 0, 1) := by decide +kernel
theorem dX7_page_20 : decode cX7_page 20 = .ok (.getfield 19, 3) := by decide +kernel
theorem dX7_page_23 : decode cX7_page 23 = .ok (.iload_n 1, 1) := by decide +kernel
theorem dX7_page_24 : decode cX7_page 24 = .ok (.iaload, 1) := by decide +kernel
theorem dX7_page_25 : decode cX7_page 25 = .ok (.goto 5, 3) := by decide +kernel
theorem dX7_page_28 : decode cX7_page 28 = .ok (.bipush (-5), 2) := by decide +kernel
theorem dX7_page_30 : decode cX7_page 30 = .ok (.ireturn, 1) := by decide +kernel
theorem dX7_source_0 : decode cX7_source 0 = .ok (.iload_n 1, 1) := by decide +kernel
theorem dX7_source_1 : decode cX7_source 1 = .ok (.iconst 0, 1) := by decide +kernel
theorem dX7_source_2 : decode cX7_source 2 = .ok (.iconst 5, 1) := by decide +kernel
theorem dX7_source_3 : decode cX7_source 3 = .ok (.invokestatic 41, 3) := by decide +kernel
theorem dX7_source_6 : decode cX7_source 6 = .ok (.ifCond .ne 5, 3) := by decide +kernel
theorem dX7_source_9 : decode cX7_source 9 = .ok (.iconst (-1), 1) := by decide +kernel
theorem dX7_source_10 : decode cX7_source 10 = .ok (.ireturn, 1) := by decide +kernel
theorem dX7_source_11 : decode cX7_source 11 = .ok (.iload_n 2, 1) := by decide +kernel
theorem dX7_source_12 : decode cX7_source 12 = .ok (.iconst 0, 1) := by decide +kernel
theorem dX7_source_13 : decode cX7_source 13 = .ok (.iconst 3, 1) := by decide +kernel
theorem dX7_source_14 : decode cX7_source 14 = .ok (.invokestatic 41, 3) := by decide +kernel
theorem dX7_source_17 : decode cX7_source 17 = .ok (.ifCond .ne 6, 3) := by decide +kernel
theorem dX7_source_20 : decode cX7_source 20 = .ok (.bipush (-2), 2) := by decide +kernel
theorem dX7_source_22 : decode cX7_source 22 = .ok (.ireturn, 1) := by decide +kernel
theorem dX7_source_23 : decode cX7_source 23 = .ok (.iload_n 2, 1) := by decide +kernel
theorem dX7_source_24 : decode cX7_source 24 = .ok (.ifCond .ne 13, 3) := by decide +kernel
theorem dX7_source_27 : decode cX7_source 27 = .ok (.aload_n 0, 1) := by decide +kernel
theorem dX7_source_28 : decode cX7_source 28 = .ok (.getfield 7, 3) := by decide +kernel
theorem dX7_source_31 : decode cX7_source 31 = .ok (.bipush 9, 2) := by decide +kernel
theorem dX7_source_33 : decode cX7_source 33 = .ok (.iload_n 1, 1) := by decide +kernel
theorem dX7_source_34 : decode cX7_source 34 = .ok (.iadd, 1) := by decide +kernel
theorem dX7_source_35 : decode cX7_source 35 = .ok (.iaload, 1) := by decide +kernel
theorem dX7_source_36 : decode cX7_source 36 = .ok (.ireturn, 1) := by decide +kernel
theorem dX7_source_37 : decode cX7_source 37 = .ok (.iconst 0, 1) := by decide +kernel
theorem dX7_source_38 : decode cX7_source 38 = .ok (.istore_n 3, 1) := by decide +kernel
theorem dX7_source_39 : decode cX7_source 39 = .ok (.iconst 0, 1) := by decide +kernel
theorem dX7_source_40 : decode cX7_source 40 = .ok (.istore 4, 2) := by decide +kernel
theorem dX7_source_42 : decode cX7_source 42 = .ok (.iload 4, 2) := by decide +kernel
theorem dX7_source_44 : decode cX7_source 44 = .ok (.aload_n 0, 1) := by decide +kernel
theorem dX7_source_45 : decode cX7_source 45 = .ok (.getfield 7, 3) := by decide +kernel
theorem dX7_source_48 : decode cX7_source 48 = .ok (.iconst 1, 1) := by decide +kernel
theorem dX7_source_49 : decode cX7_source 49 = .ok (.iaload, 1) := by decide +kernel
theorem dX7_source_50 : decode cX7_source 50 = .ok (.if_icmp .ge 118, 3) := by decide +kernel
theorem dX7_source_53 : decode cX7_source 53 = .ok (.iconst 0, 1) := by decide +kernel
theorem dX7_source_54 : decode cX7_source 54 = .ok (.istore 5, 2) := by decide +kernel
theorem dX7_source_56 : decode cX7_source 56 = .ok (.iload 5, 2) := by decide +kernel
theorem dX7_source_58 : decode cX7_source 58 = .ok (.aload_n 0, 1) := by decide +kernel
theorem dX7_source_59 : decode cX7_source 59 = .ok (.iload 4, 2) := by decide +kernel
theorem dX7_source_61 : decode cX7_source 61 = .ok (.iconst 3, 1) := by decide +kernel
theorem dX7_source_62 : decode cX7_source 62 = .ok (.invokevirtual 49, 3) := by decide +kernel
theorem dX7_source_65 : decode cX7_source 65 = .ok (.if_icmp .ge 97, 3) := by decide +kernel
theorem dX7_source_68 : decode cX7_source 68 = .ok (.aload_n 0, 1) := by decide +kernel
theorem dX7_source_69 : decode cX7_source 69 = .ok (.getfield 7, 3) := by decide +kernel
theorem dX7_source_72 : decode cX7_source 72 = .ok (.iload 4, 2) := by decide +kernel
theorem dX7_source_74 : decode cX7_source 74 = .ok (.iload 5, 2) := by decide +kernel
theorem dX7_source_76 : decode cX7_source 76 = .ok (.invokestatic 53, 3) := by decide +kernel
theorem dX7_source_79 : decode cX7_source 79 = .ok (.iaload, 1) := by decide +kernel
theorem dX7_source_80 : decode cX7_source 80 = .ok (.iload_n 1, 1) := by decide +kernel
theorem dX7_source_81 : decode cX7_source 81 = .ok (.if_icmp .ne 7, 3) := by decide +kernel
theorem dX7_source_84 : decode cX7_source 84 = .ok (.iconst 1, 1) := by decide +kernel
theorem dX7_source_85 : decode cX7_source 85 = .ok (.goto 4, 3) := by decide +kernel
theorem dX7_source_88 : decode cX7_source 88 = .ok (.iconst 0, 1) := by decide +kernel
theorem dX7_source_89 : decode cX7_source 89 = .ok (.istore 6, 2) := by decide +kernel
theorem dX7_source_91 : decode cX7_source 91 = .ok (.iload_n 3, 1) := by decide +kernel
theorem dX7_source_92 : decode cX7_source 92 = .ok (.iload 6, 2) := by decide +kernel
theorem dX7_source_94 : decode cX7_source 94 = .ok (.ifCond .ne 7, 3) := by decide +kernel
theorem dX7_source_97 : decode cX7_source 97 = .ok (.iconst 0, 1) := by decide +kernel
theorem dX7_source_98 : decode cX7_source 98 = .ok (.goto 56, 3) := by decide +kernel
theorem dX7_source_101 : decode cX7_source 101 = .ok (.iload_n 2, 1) := by decide +kernel
theorem dX7_source_102 : decode cX7_source 102 = .ok (.iconst 1, 1) := by decide +kernel
theorem dX7_source_103 : decode cX7_source 103 = .ok (.if_icmp .ne 7, 3) := by decide +kernel
theorem dX7_source_106 : decode cX7_source 106 = .ok (.iconst 1, 1) := by decide +kernel
theorem dX7_source_107 : decode cX7_source 107 = .ok (.goto 47, 3) := by decide +kernel
theorem dX7_source_110 : decode cX7_source 110 = .ok (.iload_n 2, 1) := by decide +kernel
theorem dX7_source_111 : decode cX7_source 111 = .ok (.iconst 3, 1) := by decide +kernel
theorem dX7_source_112 : decode cX7_source 112 = .ok (.if_icmp .ne 20, 3) := by decide +kernel
theorem dX7_source_115 : decode cX7_source 115 = .ok (.aload_n 0, 1) := by decide +kernel
theorem dX7_source_116 : decode cX7_source 116 = .ok (.getfield 7, 3) := by decide +kernel
theorem dX7_source_119 : decode cX7_source 119 = .ok (.iload 4, 2) := by decide +kernel
theorem dX7_source_121 : decode cX7_source 121 = .ok (.iload 5, 2) := by decide +kernel
theorem dX7_source_123 : decode cX7_source 123 = .ok (.invokestatic 53, 3) := by decide +kernel
theorem dX7_source_126 : decode cX7_source 126 = .ok (.iconst 1, 1) := by decide +kernel
theorem dX7_source_127 : decode cX7_source 127 = .ok (.iadd, 1) := by decide +kernel
theorem dX7_source_128 : decode cX7_source 128 = .ok (.iaload, 1) := by decide +kernel
theorem dX7_source_129 : decode cX7_source 129 = .ok (.goto 25, 3) := by decide +kernel
theorem dX7_source_132 : decode cX7_source 132 = .ok (.aload_n 0, 1) := by decide +kernel
theorem dX7_source_133 : decode cX7_source 133 = .ok (.iload 4, 2) := by decide +kernel
theorem dX7_source_135 : decode cX7_source 135 = .ok (.iload 5, 2) := by decide +kernel
theorem dX7_source_137 : decode cX7_source 137 = .ok (.aload_n 0, 1) := by decide +kernel
theorem dX7_source_138 : decode cX7_source 138 = .ok (.getfield 7, 3) := by decide +kernel
theorem dX7_source_141 : decode cX7_source 141 = .ok (.iconst 0, 1) := by decide +kernel
theorem dX7_source_142 : decode cX7_source 142 = .ok (.iaload, 1) := by decide +kernel
theorem dX7_source_143 : decode cX7_source 143 = .ok (.invokevirtual 62, 3) := by decide +kernel
theorem dX7_source_146 : decode cX7_source 146 = .ok (.ifCond .eq 7, 3) := by decide +kernel
theorem dX7_source_149 : decode cX7_source 149 = .ok (.iconst 1, 1) := by decide +kernel
theorem dX7_source_150 : decode cX7_source 150 = .ok (.goto 4, 3) := by decide +kernel
theorem dX7_source_153 : decode cX7_source 153 = .ok (.iconst 0, 1) := by decide +kernel
theorem dX7_source_154 : decode cX7_source 154 = .ok (.iadd, 1) := by decide +kernel
theorem dX7_source_155 : decode cX7_source 155 = .ok (.istore_n 3, 1) := by decide +kernel
theorem dX7_source_156 : decode cX7_source 156 = .ok (.iinc 5 1, 3) := by decide +kernel
theorem dX7_source_159 : decode cX7_source 159 = .ok (.goto (-103), 3) := by decide +kernel
theorem dX7_source_162 : decode cX7_source 162 = .ok (.iinc 4 1, 3) := by decide +kernel
theorem dX7_source_165 : decode cX7_source 165 = .ok (.goto (-123), 3) := by decide +kernel
theorem dX7_source_168 : decode cX7_source 168 = .ok (.iload_n 3, 1) := by decide +kernel
theorem dX7_source_169 : decode cX7_source 169 = .ok (.ireturn, 1) := by decide +kernel
theorem dX7_staleOn_0 : decode cX7_staleOn 0 = .ok (.iconst 0, 1) := by decide +kernel
theorem dX7_staleOn_1 : decode cX7_staleOn 1 = .ok (.istore_n 2, 1) := by decide +kernel
theorem dX7_staleOn_2 : decode cX7_staleOn 2 = .ok (.iconst 0, 1) := by decide +kernel
theorem dX7_staleOn_3 : decode cX7_staleOn 3 = .ok (.istore_n 3, 1) := by decide +kernel
theorem dX7_staleOn_4 : decode cX7_staleOn 4 = .ok (.iload_n 3, 1) := by decide +kernel
theorem dX7_staleOn_5 : decode cX7_staleOn 5 = .ok (.aload_n 0, 1) := by decide +kernel
theorem dX7_staleOn_6 : decode cX7_staleOn 6 = .ok (.getfield 7, 3) := by decide +kernel
theorem dX7_staleOn_9 : decode cX7_staleOn 9 = .ok (.iconst 1, 1) := by decide +kernel
theorem dX7_staleOn_10 : decode cX7_staleOn 10 = .ok (.iaload, 1) := by decide +kernel
theorem dX7_staleOn_11 : decode cX7_staleOn 11 = .ok (.if_icmp .ge 32, 3) := by decide +kernel
theorem dX7_staleOn_14 : decode cX7_staleOn 14 = .ok (.iload_n 2, 1) := by decide +kernel
theorem dX7_staleOn_15 : decode cX7_staleOn 15 = .ok (.aload_n 0, 1) := by decide +kernel
theorem dX7_staleOn_16 : decode cX7_staleOn 16 = .ok (.iload_n 3, 1) := by decide +kernel
theorem dX7_staleOn_17 : decode cX7_staleOn 17 = .ok (.iconst 2, 1) := by decide +kernel
theorem dX7_staleOn_18 : decode cX7_staleOn 18 = .ok (.invokevirtual 49, 3) := by decide +kernel
theorem dX7_staleOn_21 : decode cX7_staleOn 21 = .ok (.iconst 3, 1) := by decide +kernel
theorem dX7_staleOn_22 : decode cX7_staleOn 22 = .ok (.if_icmp .ne 7, 3) := by decide +kernel
theorem dX7_staleOn_25 : decode cX7_staleOn 25 = .ok (.iconst 0, 1) := by decide +kernel
theorem dX7_staleOn_26 : decode cX7_staleOn 26 = .ok (.goto 9, 3) := by decide +kernel
theorem dX7_staleOn_29 : decode cX7_staleOn 29 = .ok (.aload_n 0, 1) := by decide +kernel
theorem dX7_staleOn_30 : decode cX7_staleOn 30 = .ok (.iload_n 3, 1) := by decide +kernel
theorem dX7_staleOn_31 : decode cX7_staleOn 31 = .ok (.iload_n 1, 1) := by decide +kernel
theorem dX7_staleOn_32 : decode cX7_staleOn 32 = .ok (.invokevirtual 68, 3) := by decide +kernel
theorem dX7_staleOn_35 : decode cX7_staleOn 35 = .ok (.iadd, 1) := by decide +kernel
theorem dX7_staleOn_36 : decode cX7_staleOn 36 = .ok (.istore_n 2, 1) := by decide +kernel
theorem dX7_staleOn_37 : decode cX7_staleOn 37 = .ok (.iinc 3 1, 3) := by decide +kernel
theorem dX7_staleOn_40 : decode cX7_staleOn 40 = .ok (.goto (-36), 3) := by decide +kernel
theorem dX7_staleOn_43 : decode cX7_staleOn 43 = .ok (.iload_n 2, 1) := by decide +kernel
theorem dX7_staleOn_44 : decode cX7_staleOn 44 = .ok (.ireturn, 1) := by decide +kernel
theorem dX7_staleIn_0 : decode cX7_staleIn 0 = .ok (.iload_n 1, 1) := by decide +kernel
theorem dX7_staleIn_1 : decode cX7_staleIn 1 = .ok (.iconst 0, 1) := by decide +kernel
theorem dX7_staleIn_2 : decode cX7_staleIn 2 = .ok (.sipush 999, 3) := by decide +kernel
theorem dX7_staleIn_5 : decode cX7_staleIn 5 = .ok (.invokestatic 41, 3) := by decide +kernel
theorem dX7_staleIn_8 : decode cX7_staleIn 8 = .ok (.ifCond .eq 18, 3) := by decide +kernel
theorem dX7_staleIn_11 : decode cX7_staleIn 11 = .ok (.aload_n 0, 1) := by decide +kernel
theorem dX7_staleIn_12 : decode cX7_staleIn 12 = .ok (.aload_n 0, 1) := by decide +kernel
theorem dX7_staleIn_13 : decode cX7_staleIn 13 = .ok (.getfield 7, 3) := by decide +kernel
theorem dX7_staleIn_16 : decode cX7_staleIn 16 = .ok (.iconst 0, 1) := by decide +kernel
theorem dX7_staleIn_17 : decode cX7_staleIn 17 = .ok (.iaload, 1) := by decide +kernel
theorem dX7_staleIn_18 : decode cX7_staleIn 18 = .ok (.iload_n 1, 1) := by decide +kernel
theorem dX7_staleIn_19 : decode cX7_staleIn 19 = .ok (.iadd, 1) := by decide +kernel
theorem dX7_staleIn_20 : decode cX7_staleIn 20 = .ok (.invokevirtual 164, 3) := by decide +kernel
theorem dX7_staleIn_23 : decode cX7_staleIn 23 = .ok (.goto 5, 3) := by decide +kernel
theorem dX7_staleIn_26 : decode cX7_staleIn 26 = .ok (.bipush (-2), 2) := by decide +kernel
theorem dX7_staleIn_28 : decode cX7_staleIn 28 = .ok (.ireturn, 1) := by decide +kernel
theorem dX7_facts_0 : decode cX7_facts 0 = .ok (.iconst 0, 1) := by decide +kernel
theorem dX7_facts_1 : decode cX7_facts 1 = .ok (.istore_n 1, 1) := by decide +kernel
theorem dX7_facts_2 : decode cX7_facts 2 = .ok (.iconst 0, 1) := by decide +kernel
theorem dX7_facts_3 : decode cX7_facts 3 = .ok (.istore_n 2, 1) := by decide +kernel
theorem dX7_facts_4 : decode cX7_facts 4 = .ok (.iload_n 2, 1) := by decide +kernel
theorem dX7_facts_5 : decode cX7_facts 5 = .ok (.aload_n 0, 1) := by decide +kernel
theorem dX7_facts_6 : decode cX7_facts 6 = .ok (.getfield 7, 3) := by decide +kernel
theorem dX7_facts_9 : decode cX7_facts 9 = .ok (.iconst 1, 1) := by decide +kernel
theorem dX7_facts_10 : decode cX7_facts 10 = .ok (.iaload, 1) := by decide +kernel
theorem dX7_facts_11 : decode cX7_facts 11 = .ok (.if_icmp .ge 18, 3) := by decide +kernel
theorem dX7_facts_14 : decode cX7_facts 14 = .ok (.iload_n 1, 1) := by decide +kernel
theorem dX7_facts_15 : decode cX7_facts 15 = .ok (.aload_n 0, 1) := by decide +kernel
theorem dX7_facts_16 : decode cX7_facts 16 = .ok (.iload_n 2, 1) := by decide +kernel
theorem dX7_facts_17 : decode cX7_facts 17 = .ok (.iconst 3, 1) := by decide +kernel
theorem dX7_facts_18 : decode cX7_facts 18 = .ok (.invokevirtual 49, 3) := by decide +kernel
theorem dX7_facts_21 : decode cX7_facts 21 = .ok (.iadd, 1) := by decide +kernel
theorem dX7_facts_22 : decode cX7_facts 22 = .ok (.istore_n 1, 1) := by decide +kernel
theorem dX7_facts_23 : decode cX7_facts 23 = .ok (.iinc 2 1, 3) := by decide +kernel
theorem dX7_facts_26 : decode cX7_facts 26 = .ok (.goto (-22), 3) := by decide +kernel
theorem dX7_facts_29 : decode cX7_facts 29 = .ok (.iload_n 1, 1) := by decide +kernel
theorem dX7_facts_30 : decode cX7_facts 30 = .ok (.ireturn, 1) := by decide +kernel
theorem dX7_freeLines_0 : decode cX7_freeLines 0 = .ok (.aload_n 0, 1) := by decide +kernel
theorem dX7_freeLines_1 : decode cX7_freeLines 1 = .ok (.invokevirtual 150, 3) := by decide +kernel
theorem dX7_freeLines_4 : decode cX7_freeLines 4 = .ok (.aload_n 0, 1) := by decide +kernel
theorem dX7_freeLines_5 : decode cX7_freeLines 5 = .ok (.getfield 138, 3) := by decide +kernel
theorem dX7_freeLines_8 : decode cX7_freeLines 8 = .ok (.ireturn, 1) := by decide +kernel
theorem dX7_count_0 : decode cX7_count 0 = .ok (.iload_n 1, 1) := by decide +kernel
theorem dX7_count_1 : decode cX7_count 1 = .ok (.tableswitch 166 0 17 #[87, 94, 101, 108, 108, 108, 108, 116, 121, 132, 137, 144, 144, 144, 144, 144, 156, 161], 87) := by decide +kernel
theorem dX7_count_88 : decode cX7_count 88 = .ok (.aload_n 0, 1) := by decide +kernel
theorem dX7_count_89 : decode cX7_count 89 = .ok (.getfield 7, 3) := by decide +kernel
theorem dX7_count_92 : decode cX7_count 92 = .ok (.iconst 0, 1) := by decide +kernel
theorem dX7_count_93 : decode cX7_count 93 = .ok (.iaload, 1) := by decide +kernel
theorem dX7_count_94 : decode cX7_count 94 = .ok (.ireturn, 1) := by decide +kernel
theorem dX7_count_95 : decode cX7_count 95 = .ok (.aload_n 0, 1) := by decide +kernel
theorem dX7_count_96 : decode cX7_count 96 = .ok (.getfield 7, 3) := by decide +kernel
theorem dX7_count_99 : decode cX7_count 99 = .ok (.iconst 1, 1) := by decide +kernel
theorem dX7_count_100 : decode cX7_count 100 = .ok (.iaload, 1) := by decide +kernel
theorem dX7_count_101 : decode cX7_count 101 = .ok (.ireturn, 1) := by decide +kernel
theorem dX7_count_102 : decode cX7_count 102 = .ok (.aload_n 0, 1) := by decide +kernel
theorem dX7_count_103 : decode cX7_count 103 = .ok (.getfield 7, 3) := by decide +kernel
theorem dX7_count_106 : decode cX7_count 106 = .ok (.iconst 2, 1) := by decide +kernel
theorem dX7_count_107 : decode cX7_count 107 = .ok (.iaload, 1) := by decide +kernel
theorem dX7_count_108 : decode cX7_count 108 = .ok (.ireturn, 1) := by decide +kernel
theorem dX7_count_109 : decode cX7_count 109 = .ok (.aload_n 0, 1) := by decide +kernel
theorem dX7_count_110 : decode cX7_count 110 = .ok (.iload_n 1, 1) := by decide +kernel
theorem dX7_count_111 : decode cX7_count 111 = .ok (.iconst 3, 1) := by decide +kernel
theorem dX7_count_112 : decode cX7_count 112 = .ok (.isub, 1) := by decide +kernel
theorem dX7_count_113 : decode cX7_count 113 = .ok (.invokevirtual 132, 3) := by decide +kernel
theorem dX7_count_116 : decode cX7_count 116 = .ok (.ireturn, 1) := by decide +kernel
theorem dX7_count_117 : decode cX7_count 117 = .ok (.aload_n 0, 1) := by decide +kernel
theorem dX7_count_118 : decode cX7_count 118 = .ok (.invokevirtual 167, 3) := by decide +kernel
theorem dX7_count_121 : decode cX7_count 121 = .ok (.ireturn, 1) := by decide +kernel
theorem dX7_count_122 : decode cX7_count 122 = .ok (.aload_n 0, 1) := by decide +kernel
theorem dX7_count_123 : decode cX7_count 123 = .ok (.aload_n 0, 1) := by decide +kernel
theorem dX7_count_124 : decode cX7_count 124 = .ok (.getfield 7, 3) := by decide +kernel
theorem dX7_count_127 : decode cX7_count 127 = .ok (.iconst 0, 1) := by decide +kernel
theorem dX7_count_128 : decode cX7_count 128 = .ok (.iaload, 1) := by decide +kernel
theorem dX7_count_129 : decode cX7_count 129 = .ok (.invokevirtual 164, 3) := by decide +kernel
theorem dX7_count_132 : decode cX7_count 132 = .ok (.ireturn, 1) := by decide +kernel
theorem dX7_count_133 : decode cX7_count 133 = .ok (.aload_n 0, 1) := by decide +kernel
theorem dX7_count_134 : decode cX7_count 134 = .ok (.invokevirtual 170, 3) := by decide +kernel
theorem dX7_count_137 : decode cX7_count 137 = .ok (.ireturn, 1) := by decide +kernel
theorem dX7_count_138 : decode cX7_count 138 = .ok (.aload_n 0, 1) := by decide +kernel
theorem dX7_count_139 : decode cX7_count 139 = .ok (.getfield 7, 3) := by decide +kernel
theorem dX7_count_142 : decode cX7_count 142 = .ok (.iconst 3, 1) := by decide +kernel
theorem dX7_count_143 : decode cX7_count 143 = .ok (.iaload, 1) := by decide +kernel
theorem dX7_count_144 : decode cX7_count 144 = .ok (.ireturn, 1) := by decide +kernel
theorem dX7_count_145 : decode cX7_count 145 = .ok (.aload_n 0, 1) := by decide +kernel
theorem dX7_count_146 : decode cX7_count 146 = .ok (.getfield 7, 3) := by decide +kernel
theorem dX7_count_149 : decode cX7_count 149 = .ok (.iconst 4, 1) := by decide +kernel
theorem dX7_count_150 : decode cX7_count 150 = .ok (.iload_n 1, 1) := by decide +kernel
theorem dX7_count_151 : decode cX7_count 151 = .ok (.iadd, 1) := by decide +kernel
theorem dX7_count_152 : decode cX7_count 152 = .ok (.bipush 11, 2) := by decide +kernel
theorem dX7_count_154 : decode cX7_count 154 = .ok (.isub, 1) := by decide +kernel
theorem dX7_count_155 : decode cX7_count 155 = .ok (.iaload, 1) := by decide +kernel
theorem dX7_count_156 : decode cX7_count 156 = .ok (.ireturn, 1) := by decide +kernel
theorem dX7_count_157 : decode cX7_count 157 = .ok (.aload_n 0, 1) := by decide +kernel
theorem dX7_count_158 : decode cX7_count 158 = .ok (.getfield 33, 3) := by decide +kernel
theorem dX7_count_161 : decode cX7_count 161 = .ok (.ireturn, 1) := by decide +kernel
theorem dX7_count_162 : decode cX7_count 162 = .ok (.aload_n 0, 1) := by decide +kernel
theorem dX7_count_163 : decode cX7_count 163 = .ok (.getfield 77, 3) := by decide +kernel
theorem dX7_count_166 : decode cX7_count 166 = .ok (.ireturn, 1) := by decide +kernel
theorem dX7_count_167 : decode cX7_count 167 = .ok (.bipush (-2), 2) := by decide +kernel
theorem dX7_count_169 : decode cX7_count 169 = .ok (.ireturn, 1) := by decide +kernel
theorem dJxf58ca_isNaN_12338_0 : decode cJxf58ca_isNaN_12338 0 = .ok (.fload_n 0, 1) := by decide +kernel
theorem dJxf58ca_isNaN_12338_1 : decode cJxf58ca_isNaN_12338 1 = .ok (.fload_n 0, 1) := by decide +kernel
theorem dJxf58ca_isNaN_12338_2 : decode cJxf58ca_isNaN_12338 2 = .ok (.fcmp .l, 1) := by decide +kernel
theorem dJxf58ca_isNaN_12338_3 : decode cJxf58ca_isNaN_12338 3 = .ok (.ifCond .eq 7, 3) := by decide +kernel
theorem dJxf58ca_isNaN_12338_6 : decode cJxf58ca_isNaN_12338 6 = .ok (.iconst 1, 1) := by decide +kernel
theorem dJxf58ca_isNaN_12338_7 : decode cJxf58ca_isNaN_12338 7 = .ok (.goto 4, 3) := by decide +kernel
theorem dJxf58ca_isNaN_12338_10 : decode cJxf58ca_isNaN_12338 10 = .ok (.iconst 0, 1) := by decide +kernel
theorem dJxf58ca_isNaN_12338_11 : decode cJxf58ca_isNaN_12338 11 = .ok (.ireturn, 1) := by decide +kernel
theorem dJxf58ca_floatToIntBits_5c35a_0 : decode cJxf58ca_floatToIntBits_5c35a 0 = .ok (.fload_n 0, 1) := by decide +kernel
theorem dJxf58ca_floatToIntBits_5c35a_1 : decode cJxf58ca_floatToIntBits_5c35a 1 = .ok (.invokestatic 59, 3) := by decide +kernel
theorem dJxf58ca_floatToIntBits_5c35a_4 : decode cJxf58ca_floatToIntBits_5c35a 4 = .ok (.ifCond .ne 8, 3) := by decide +kernel
theorem dJxf58ca_floatToIntBits_5c35a_7 : decode cJxf58ca_floatToIntBits_5c35a 7 = .ok (.fload_n 0, 1) := by decide +kernel
theorem dJxf58ca_floatToIntBits_5c35a_8 : decode cJxf58ca_floatToIntBits_5c35a 8 = .ok (.invokestatic 74, 3) := by decide +kernel
theorem dJxf58ca_floatToIntBits_5c35a_11 : decode cJxf58ca_floatToIntBits_5c35a 11 = .ok (.ireturn, 1) := by decide +kernel
theorem dJxf58ca_floatToIntBits_5c35a_12 : decode cJxf58ca_floatToIntBits_5c35a 12 = .ok (.ldc 77, 2) := by decide +kernel
theorem dJxf58ca_floatToIntBits_5c35a_14 : decode cJxf58ca_floatToIntBits_5c35a 14 = .ok (.ireturn, 1) := by decide +kernel
theorem dJ6_bitCount_0f7a4_0 : decode cJ6_bitCount_0f7a4 0 = .ok (.iload_n 0, 1) := by decide +kernel
theorem dJ6_bitCount_0f7a4_1 : decode cJ6_bitCount_0f7a4 1 = .ok (.iload_n 0, 1) := by decide +kernel
theorem dJ6_bitCount_0f7a4_2 : decode cJ6_bitCount_0f7a4 2 = .ok (.iconst 1, 1) := by decide +kernel
theorem dJ6_bitCount_0f7a4_3 : decode cJ6_bitCount_0f7a4 3 = .ok (.iushr, 1) := by decide +kernel
theorem dJ6_bitCount_0f7a4_4 : decode cJ6_bitCount_0f7a4 4 = .ok (.ldc_w 265, 3) := by decide +kernel
theorem dJ6_bitCount_0f7a4_7 : decode cJ6_bitCount_0f7a4 7 = .ok (.iand, 1) := by decide +kernel
theorem dJ6_bitCount_0f7a4_8 : decode cJ6_bitCount_0f7a4 8 = .ok (.isub, 1) := by decide +kernel
theorem dJ6_bitCount_0f7a4_9 : decode cJ6_bitCount_0f7a4 9 = .ok (.istore_n 0, 1) := by decide +kernel
theorem dJ6_bitCount_0f7a4_10 : decode cJ6_bitCount_0f7a4 10 = .ok (.iload_n 0, 1) := by decide +kernel
theorem dJ6_bitCount_0f7a4_11 : decode cJ6_bitCount_0f7a4 11 = .ok (.ldc_w 266, 3) := by decide +kernel
theorem dJ6_bitCount_0f7a4_14 : decode cJ6_bitCount_0f7a4 14 = .ok (.iand, 1) := by decide +kernel
theorem dJ6_bitCount_0f7a4_15 : decode cJ6_bitCount_0f7a4 15 = .ok (.iload_n 0, 1) := by decide +kernel
theorem dJ6_bitCount_0f7a4_16 : decode cJ6_bitCount_0f7a4 16 = .ok (.iconst 2, 1) := by decide +kernel
theorem dJ6_bitCount_0f7a4_17 : decode cJ6_bitCount_0f7a4 17 = .ok (.iushr, 1) := by decide +kernel
theorem dJ6_bitCount_0f7a4_18 : decode cJ6_bitCount_0f7a4 18 = .ok (.ldc_w 266, 3) := by decide +kernel
theorem dJ6_bitCount_0f7a4_21 : decode cJ6_bitCount_0f7a4 21 = .ok (.iand, 1) := by decide +kernel
theorem dJ6_bitCount_0f7a4_22 : decode cJ6_bitCount_0f7a4 22 = .ok (.iadd, 1) := by decide +kernel
theorem dJ6_bitCount_0f7a4_23 : decode cJ6_bitCount_0f7a4 23 = .ok (.istore_n 0, 1) := by decide +kernel
theorem dJ6_bitCount_0f7a4_24 : decode cJ6_bitCount_0f7a4 24 = .ok (.iload_n 0, 1) := by decide +kernel
theorem dJ6_bitCount_0f7a4_25 : decode cJ6_bitCount_0f7a4 25 = .ok (.iload_n 0, 1) := by decide +kernel
theorem dJ6_bitCount_0f7a4_26 : decode cJ6_bitCount_0f7a4 26 = .ok (.iconst 4, 1) := by decide +kernel
theorem dJ6_bitCount_0f7a4_27 : decode cJ6_bitCount_0f7a4 27 = .ok (.iushr, 1) := by decide +kernel
theorem dJ6_bitCount_0f7a4_28 : decode cJ6_bitCount_0f7a4 28 = .ok (.iadd, 1) := by decide +kernel
theorem dJ6_bitCount_0f7a4_29 : decode cJ6_bitCount_0f7a4 29 = .ok (.ldc_w 267, 3) := by decide +kernel
theorem dJ6_bitCount_0f7a4_32 : decode cJ6_bitCount_0f7a4 32 = .ok (.iand, 1) := by decide +kernel
theorem dJ6_bitCount_0f7a4_33 : decode cJ6_bitCount_0f7a4 33 = .ok (.istore_n 0, 1) := by decide +kernel
theorem dJ6_bitCount_0f7a4_34 : decode cJ6_bitCount_0f7a4 34 = .ok (.iload_n 0, 1) := by decide +kernel
theorem dJ6_bitCount_0f7a4_35 : decode cJ6_bitCount_0f7a4 35 = .ok (.iload_n 0, 1) := by decide +kernel
theorem dJ6_bitCount_0f7a4_36 : decode cJ6_bitCount_0f7a4 36 = .ok (.bipush 8, 2) := by decide +kernel
theorem dJ6_bitCount_0f7a4_38 : decode cJ6_bitCount_0f7a4 38 = .ok (.iushr, 1) := by decide +kernel
theorem dJ6_bitCount_0f7a4_39 : decode cJ6_bitCount_0f7a4 39 = .ok (.iadd, 1) := by decide +kernel
theorem dJ6_bitCount_0f7a4_40 : decode cJ6_bitCount_0f7a4 40 = .ok (.istore_n 0, 1) := by decide +kernel
theorem dJ6_bitCount_0f7a4_41 : decode cJ6_bitCount_0f7a4 41 = .ok (.iload_n 0, 1) := by decide +kernel
theorem dJ6_bitCount_0f7a4_42 : decode cJ6_bitCount_0f7a4 42 = .ok (.iload_n 0, 1) := by decide +kernel
theorem dJ6_bitCount_0f7a4_43 : decode cJ6_bitCount_0f7a4 43 = .ok (.bipush 16, 2) := by decide +kernel
theorem dJ6_bitCount_0f7a4_45 : decode cJ6_bitCount_0f7a4 45 = .ok (.iushr, 1) := by decide +kernel
theorem dJ6_bitCount_0f7a4_46 : decode cJ6_bitCount_0f7a4 46 = .ok (.iadd, 1) := by decide +kernel
theorem dJ6_bitCount_0f7a4_47 : decode cJ6_bitCount_0f7a4 47 = .ok (.istore_n 0, 1) := by decide +kernel
theorem dJ6_bitCount_0f7a4_48 : decode cJ6_bitCount_0f7a4 48 = .ok (.iload_n 0, 1) := by decide +kernel
theorem dJ6_bitCount_0f7a4_49 : decode cJ6_bitCount_0f7a4 49 = .ok (.bipush 63, 2) := by decide +kernel
theorem dJ6_bitCount_0f7a4_51 : decode cJ6_bitCount_0f7a4 51 = .ok (.iand, 1) := by decide +kernel
theorem dJ6_bitCount_0f7a4_52 : decode cJ6_bitCount_0f7a4 52 = .ok (.ireturn, 1) := by decide +kernel
theorem dJ9_min_7cf53_0 : decode cJ9_min_7cf53 0 = .ok (.iload_n 0, 1) := by decide +kernel
theorem dJ9_min_7cf53_1 : decode cJ9_min_7cf53 1 = .ok (.iload_n 1, 1) := by decide +kernel
theorem dJ9_min_7cf53_2 : decode cJ9_min_7cf53 2 = .ok (.if_icmp .gt 7, 3) := by decide +kernel
theorem dJ9_min_7cf53_5 : decode cJ9_min_7cf53 5 = .ok (.iload_n 0, 1) := by decide +kernel
theorem dJ9_min_7cf53_6 : decode cJ9_min_7cf53 6 = .ok (.goto 4, 3) := by decide +kernel
theorem dJ9_min_7cf53_9 : decode cJ9_min_7cf53 9 = .ok (.iload_n 1, 1) := by decide +kernel
theorem dJ9_min_7cf53_10 : decode cJ9_min_7cf53 10 = .ok (.ireturn, 1) := by decide +kernel
