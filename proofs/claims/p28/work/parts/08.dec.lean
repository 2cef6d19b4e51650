theorem dX0_init_0 : decode cX0_init 0 = .ok (.aload_n 0, 1) := by decide +kernel
theorem dX0_init_1 : decode cX0_init 1 = .ok (.invokespecial 3, 3) := by decide +kernel
theorem dX0_init_4 : decode cX0_init 4 = .ok (.aload_n 0, 1) := by decide +kernel
theorem dX0_init_5 : decode cX0_init 5 = .ok (.iconst 5, 1) := by decide +kernel
theorem dX0_init_6 : decode cX0_init 6 = .ok (.newarray .int, 2) := by decide +kernel
theorem dX0_init_8 : decode cX0_init 8 = .ok (.dup, 1) := by decide +kernel
theorem dX0_init_9 : decode cX0_init 9 = .ok (.iconst 0, 1) := by decide +kernel
theorem dX0_init_10 : decode cX0_init 10 = .ok (.bipush 8, 2) := by decide +kernel
theorem dX0_init_12 : decode cX0_init 12 = .ok (.iastore, 1) := by decide +kernel
theorem dX0_init_13 : decode cX0_init 13 = .ok (.dup, 1) := by decide +kernel
theorem dX0_init_14 : decode cX0_init 14 = .ok (.iconst 1, 1) := by decide +kernel
theorem dX0_init_15 : decode cX0_init 15 = .ok (.bipush 40, 2) := by decide +kernel
theorem dX0_init_17 : decode cX0_init 17 = .ok (.iastore, 1) := by decide +kernel
theorem dX0_init_18 : decode cX0_init 18 = .ok (.dup, 1) := by decide +kernel
theorem dX0_init_19 : decode cX0_init 19 = .ok (.iconst 2, 1) := by decide +kernel
theorem dX0_init_20 : decode cX0_init 20 = .ok (.bipush 30, 2) := by decide +kernel
theorem dX0_init_22 : decode cX0_init 22 = .ok (.iastore, 1) := by decide +kernel
theorem dX0_init_23 : decode cX0_init 23 = .ok (.dup, 1) := by decide +kernel
theorem dX0_init_24 : decode cX0_init 24 = .ok (.iconst 3, 1) := by decide +kernel
theorem dX0_init_25 : decode cX0_init 25 = .ok (.iconst 2, 1) := by decide +kernel
theorem dX0_init_26 : decode cX0_init 26 = .ok (.iastore, 1) := by decide +kernel
theorem dX0_init_27 : decode cX0_init 27 = .ok (.dup, 1) := by decide +kernel
theorem dX0_init_28 : decode cX0_init 28 = .ok (.iconst 4, 1) := by decide +kernel
theorem dX0_init_29 : decode cX0_init 29 = .ok (.iconst 3, 1) := by decide +kernel
theorem dX0_init_30 : decode cX0_init 30 = .ok (.iastore, 1) := by decide +kernel
theorem dX0_init_31 : decode cX0_init 31 = .ok (.putfield 9, 3) := by decide +kernel
theorem dX0_init_34 : decode cX0_init 34 = .ok (.aload_n 0, 1) := by decide +kernel
theorem dX0_init_35 : decode cX0_init 35 = .ok (.bipush 6, 2) := by decide +kernel
theorem dX0_init_37 : decode cX0_init 37 = .ok (.newarray .int, 2) := by decide +kernel
theorem dX0_init_39 : decode cX0_init 39 = .ok (.dup, 1) := by decide +kernel
theorem dX0_init_40 : decode cX0_init 40 = .ok (.iconst 0, 1) := by decide +kernel
theorem dX0_init_41 : decode cX0_init 41 = .ok (.bipush 50, 2) := by decide +kernel
theorem dX0_init_43 : decode cX0_init 43 = .ok (.iastore, 1) := by decide +kernel
theorem dX0_init_44 : decode cX0_init 44 = .ok (.dup, 1) := by decide +kernel
theorem dX0_init_45 : decode cX0_init 45 = .ok (.iconst 1, 1) := by decide +kernel
theorem dX0_init_46 : decode cX0_init 46 = .ok (.bipush 50, 2) := by decide +kernel
theorem dX0_init_48 : decode cX0_init 48 = .ok (.iastore, 1) := by decide +kernel
theorem dX0_init_49 : decode cX0_init 49 = .ok (.dup, 1) := by decide +kernel
theorem dX0_init_50 : decode cX0_init 50 = .ok (.iconst 2, 1) := by decide +kernel
theorem dX0_init_51 : decode cX0_init 51 = .ok (.bipush 50, 2) := by decide +kernel
theorem dX0_init_53 : decode cX0_init 53 = .ok (.iastore, 1) := by decide +kernel
theorem dX0_init_54 : decode cX0_init 54 = .ok (.dup, 1) := by decide +kernel
theorem dX0_init_55 : decode cX0_init 55 = .ok (.iconst 3, 1) := by decide +kernel
theorem dX0_init_56 : decode cX0_init 56 = .ok (.bipush 50, 2) := by decide +kernel
theorem dX0_init_58 : decode cX0_init 58 = .ok (.iastore, 1) := by decide +kernel
theorem dX0_init_59 : decode cX0_init 59 = .ok (.dup, 1) := by decide +kernel
theorem dX0_init_60 : decode cX0_init 60 = .ok (.iconst 4, 1) := by decide +kernel
theorem dX0_init_61 : decode cX0_init 61 = .ok (.bipush 50, 2) := by decide +kernel
theorem dX0_init_63 : decode cX0_init 63 = .ok (.iastore, 1) := by decide +kernel
theorem dX0_init_64 : decode cX0_init 64 = .ok (.dup, 1) := by decide +kernel
theorem dX0_init_65 : decode cX0_init 65 = .ok (.iconst 5, 1) := by decide +kernel
theorem dX0_init_66 : decode cX0_init 66 = .ok (.bipush 50, 2) := by decide +kernel
theorem dX0_init_68 : decode cX0_init 68 = .ok (.iastore, 1) := by decide +kernel
theorem dX0_init_69 : decode cX0_init 69 = .ok (.putfield 15, 3) := by decide +kernel
theorem dX0_init_72 : decode cX0_init 72 = .ok (.aload_n 0, 1) := by decide +kernel
theorem dX0_init_73 : decode cX0_init 73 = .ok (.bipush 20, 2) := by decide +kernel
theorem dX0_init_75 : decode cX0_init 75 = .ok (.anewarray 18, 3) := by decide +kernel
theorem dX0_init_78 : decode cX0_init 78 = .ok (.putfield 20, 3) := by decide +kernel
theorem dX0_init_81 : decode cX0_init 81 = .ok (.iconst 0, 1) := by decide +kernel
theorem dX0_init_82 : decode cX0_init 82 = .ok (.istore_n 1, 1) := by decide +kernel
theorem dX0_init_83 : decode cX0_init 83 = .ok (.iload_n 1, 1) := by decide +kernel
theorem dX0_init_84 : decode cX0_init 84 = .ok (.bipush 20, 2) := by decide +kernel
theorem dX0_init_86 : decode cX0_init 86 = .ok (.if_icmp .ge 22, 3) := by decide +kernel
theorem dX0_init_89 : decode cX0_init 89 = .ok (.aload_n 0, 1) := by decide +kernel
theorem dX0_init_90 : decode cX0_init 90 = .ok (.getfield 20, 3) := by decide +kernel
theorem dX0_init_93 : decode cX0_init 93 = .ok (.iload_n 1, 1) := by decide +kernel
theorem dX0_init_94 : decode cX0_init 94 = .ok (.new 18, 3) := by decide +kernel
theorem dX0_init_97 : decode cX0_init 97 = .ok (.dup, 1) := by decide +kernel
theorem dX0_init_98 : decode cX0_init 98 = .ok (.invokespecial 24, 3) := by decide +kernel
theorem dX0_init_101 : decode cX0_init 101 = .ok (.aastore, 1) := by decide +kernel
theorem dX0_init_102 : decode cX0_init 102 = .ok (.iinc 1 1, 3) := by decide +kernel
theorem dX0_init_105 : decode cX0_init 105 = .ok (.goto (-22), 3) := by decide +kernel
theorem dX0_init_108 : decode cX0_init 108 = .ok (.aload_n 0, 1) := by decide +kernel
theorem dX0_init_109 : decode cX0_init 109 = .ok (.aload_n 0, 1) := by decide +kernel
theorem dX0_init_110 : decode cX0_init 110 = .ok (.getfield 9, 3) := by decide +kernel
theorem dX0_init_113 : decode cX0_init 113 = .ok (.iconst 0, 1) := by decide +kernel
theorem dX0_init_114 : decode cX0_init 114 = .ok (.iaload, 1) := by decide +kernel
theorem dX0_init_115 : decode cX0_init 115 = .ok (.putfield 25, 3) := by decide +kernel
theorem dX0_init_118 : decode cX0_init 118 = .ok (.return_, 1) := by decide +kernel
theorem dX0_copyFrom_0 : decode cX0_copyFrom 0 = .ok (.aload_n 1, 1) := by decide +kernel
theorem dX0_copyFrom_1 : decode cX0_copyFrom 1 = .ok (.getfield 9, 3) := by decide +kernel
theorem dX0_copyFrom_4 : decode cX0_copyFrom 4 = .ok (.iconst 0, 1) := by decide +kernel
theorem dX0_copyFrom_5 : decode cX0_copyFrom 5 = .ok (.aload_n 0, 1) := by decide +kernel
theorem dX0_copyFrom_6 : decode cX0_copyFrom 6 = .ok (.getfield 9, 3) := by decide +kernel
theorem dX0_copyFrom_9 : decode cX0_copyFrom 9 = .ok (.iconst 0, 1) := by decide +kernel
theorem dX0_copyFrom_10 : decode cX0_copyFrom 10 = .ok (.iconst 5, 1) := by decide +kernel
theorem dX0_copyFrom_11 : decode cX0_copyFrom 11 = .ok (.invokestatic 29, 3) := by decide +kernel
theorem dX0_copyFrom_14 : decode cX0_copyFrom 14 = .ok (.aload_n 1, 1) := by decide +kernel
theorem dX0_copyFrom_15 : decode cX0_copyFrom 15 = .ok (.getfield 15, 3) := by decide +kernel
theorem dX0_copyFrom_18 : decode cX0_copyFrom 18 = .ok (.iconst 0, 1) := by decide +kernel
theorem dX0_copyFrom_19 : decode cX0_copyFrom 19 = .ok (.aload_n 0, 1) := by decide +kernel
theorem dX0_copyFrom_20 : decode cX0_copyFrom 20 = .ok (.getfield 15, 3) := by decide +kernel
theorem dX0_copyFrom_23 : decode cX0_copyFrom 23 = .ok (.iconst 0, 1) := by decide +kernel
theorem dX0_copyFrom_24 : decode cX0_copyFrom 24 = .ok (.bipush 6, 2) := by decide +kernel
theorem dX0_copyFrom_26 : decode cX0_copyFrom 26 = .ok (.invokestatic 29, 3) := by decide +kernel
theorem dX0_copyFrom_29 : decode cX0_copyFrom 29 = .ok (.aload_n 0, 1) := by decide +kernel
theorem dX0_copyFrom_30 : decode cX0_copyFrom 30 = .ok (.aload_n 1, 1) := by decide +kernel
theorem dX0_copyFrom_31 : decode cX0_copyFrom 31 = .ok (.getfield 35, 3) := by decide +kernel
theorem dX0_copyFrom_34 : decode cX0_copyFrom 34 = .ok (.putfield 35, 3) := by decide +kernel
theorem dX0_copyFrom_37 : decode cX0_copyFrom 37 = .ok (.aload_n 0, 1) := by decide +kernel
theorem dX0_copyFrom_38 : decode cX0_copyFrom 38 = .ok (.aload_n 1, 1) := by decide +kernel
theorem dX0_copyFrom_39 : decode cX0_copyFrom 39 = .ok (.getfield 38, 3) := by decide +kernel
theorem dX0_copyFrom_42 : decode cX0_copyFrom 42 = .ok (.putfield 38, 3) := by decide +kernel
theorem dX0_copyFrom_45 : decode cX0_copyFrom 45 = .ok (.aload_n 0, 1) := by decide +kernel
theorem dX0_copyFrom_46 : decode cX0_copyFrom 46 = .ok (.aload_n 1, 1) := by decide +kernel
theorem dX0_copyFrom_47 : decode cX0_copyFrom 47 = .ok (.getfield 25, 3) := by decide +kernel
theorem dX0_copyFrom_50 : decode cX0_copyFrom 50 = .ok (.putfield 25, 3) := by decide +kernel
theorem dX0_copyFrom_53 : decode cX0_copyFrom 53 = .ok (.aload_n 0, 1) := by decide +kernel
theorem dX0_copyFrom_54 : decode cX0_copyFrom 54 = .ok (.aload_n 1, 1) := by decide +kernel
theorem dX0_copyFrom_55 : decode cX0_copyFrom 55 = .ok (.getfield 41, 3) := by decide +kernel
theorem dX0_copyFrom_58 : decode cX0_copyFrom 58 = .ok (.putfield 41, 3) := by decide +kernel
theorem dX0_copyFrom_61 : decode cX0_copyFrom 61 = .ok (.iconst 0, 1) := by decide +kernel
theorem dX0_copyFrom_62 : decode cX0_copyFrom 62 = .ok (.istore_n 2, 1) := by decide +kernel
theorem dX0_copyFrom_63 : decode cX0_copyFrom 63 = .ok (.iload_n 2, 1) := by decide +kernel
theorem dX0_copyFrom_64 : decode cX0_copyFrom 64 = .ok (.aload_n 0, 1) := by decide +kernel
theorem dX0_copyFrom_65 : decode cX0_copyFrom 65 = .ok (.getfield 35, 3) := by decide +kernel
theorem dX0_copyFrom_68 : decode cX0_copyFrom 68 = .ok (.if_icmp .ge 37, 3) := by decide +kernel
theorem dX0_copyFrom_71 : decode cX0_copyFrom 71 = .ok (.aload_n 0, 1) := by decide +kernel
theorem dX0_copyFrom_72 : decode cX0_copyFrom 72 = .ok (.iload_n 2, 1) := by decide +kernel
theorem dX0_copyFrom_73 : decode cX0_copyFrom 73 = .ok (.invokevirtual 44, 3) := by decide +kernel
theorem dX0_copyFrom_76 : decode cX0_copyFrom 76 = .ok (.astore_n 3, 1) := by decide +kernel
theorem dX0_copyFrom_77 : decode cX0_copyFrom 77 = .ok (.aload_n 1, 1) := by decide +kernel
theorem dX0_copyFrom_78 : decode cX0_copyFrom 78 = .ok (.iload_n 2, 1) := by decide +kernel
theorem dX0_copyFrom_79 : decode cX0_copyFrom 79 = .ok (.invokevirtual 44, 3) := by decide +kernel
theorem dX0_copyFrom_82 : decode cX0_copyFrom 82 = .ok (.astore 4, 2) := by decide +kernel
theorem dX0_copyFrom_84 : decode cX0_copyFrom 84 = .ok (.aload_n 3, 1) := by decide +kernel
theorem dX0_copyFrom_85 : decode cX0_copyFrom 85 = .ok (.ifnull 14, 3) := by decide +kernel
theorem dX0_copyFrom_88 : decode cX0_copyFrom 88 = .ok (.aload 4, 2) := by decide +kernel
theorem dX0_copyFrom_90 : decode cX0_copyFrom 90 = .ok (.ifnull 9, 3) := by decide +kernel
theorem dX0_copyFrom_93 : decode cX0_copyFrom 93 = .ok (.aload_n 3, 1) := by decide +kernel
theorem dX0_copyFrom_94 : decode cX0_copyFrom 94 = .ok (.aload 4, 2) := by decide +kernel
theorem dX0_copyFrom_96 : decode cX0_copyFrom 96 = .ok (.invokevirtual 48, 3) := by decide +kernel
theorem dX0_copyFrom_99 : decode cX0_copyFrom 99 = .ok (.iinc 2 1, 3) := by decide +kernel
theorem dX0_copyFrom_102 : decode cX0_copyFrom 102 = .ok (.goto (-39), 3) := by decide +kernel
theorem dX0_copyFrom_105 : decode cX0_copyFrom 105 = .ok (.return_, 1) := by decide +kernel
theorem dX0_today_0 : decode cX0_today 0 = .ok (.aload_n 0, 1) := by decide +kernel
theorem dX0_today_1 : decode cX0_today 1 = .ok (.getfield 38, 3) := by decide +kernel
theorem dX0_today_4 : decode cX0_today 4 = .ok (.ireturn, 1) := by decide +kernel
theorem dX0_hoursLeft_0 : decode cX0_hoursLeft 0 = .ok (.aload_n 0, 1) := by decide +kernel
theorem dX0_hoursLeft_1 : decode cX0_hoursLeft 1 = .ok (.getfield 25, 3) := by decide +kernel
theorem dX0_hoursLeft_4 : decode cX0_hoursLeft 4 = .ok (.ireturn, 1) := by decide +kernel
theorem dX0_persons_0 : decode cX0_persons 0 = .ok (.aload_n 0, 1) := by decide +kernel
theorem dX0_persons_1 : decode cX0_persons 1 = .ok (.getfield 35, 3) := by decide +kernel
theorem dX0_persons_4 : decode cX0_persons 4 = .ok (.ireturn, 1) := by decide +kernel
theorem dX0_corrections_0 : decode cX0_corrections 0 = .ok (.aload_n 0, 1) := by decide +kernel
theorem dX0_corrections_1 : decode cX0_corrections 1 = .ok (.getfield 41, 3) := by decide +kernel
theorem dX0_corrections_4 : decode cX0_corrections 4 = .ok (.ireturn, 1) := by decide +kernel
theorem dX0_roomForPersons_0 : decode cX0_roomForPersons 0 = .ok (.bipush 20, 2) := by decide +kernel
theorem dX0_roomForPersons_2 : decode cX0_roomForPersons 2 = .ok (.aload_n 0, 1) := by decide +kernel
theorem dX0_roomForPersons_3 : decode cX0_roomForPersons 3 = .ok (.getfield 35, 3) := by decide +kernel
theorem dX0_roomForPersons_6 : decode cX0_roomForPersons 6 = .ok (.isub, 1) := by decide +kernel
theorem dX0_roomForPersons_7 : decode cX0_roomForPersons 7 = .ok (.ireturn, 1) := by decide +kernel
theorem dX0_lifeOf_0 : decode cX0_lifeOf 0 = .ok (.iload_n 1, 1) := by decide +kernel
theorem dX0_lifeOf_1 : decode cX0_lifeOf 1 = .ok (.ifCond .lt 17, 3) := by decide +kernel
theorem dX0_lifeOf_4 : decode cX0_lifeOf 4 = .ok (.iload_n 1, 1) := by decide +kernel
theorem dX0_lifeOf_5 : decode cX0_lifeOf 5 = .ok (.aload_n 0, 1) := by decide +kernel
theorem dX0_lifeOf_6 : decode cX0_lifeOf 6 = .ok (.getfield 35, 3) := by decide +kernel
theorem dX0_lifeOf_9 : decode cX0_lifeOf 9 = .ok (.if_icmp .ge 9, 3) := by decide +kernel
theorem dX0_lifeOf_12 : decode cX0_lifeOf 12 = .ok (.iload_n 1, 1) := by decide +kernel
theorem dX0_lifeOf_13 : decode cX0_lifeOf 13 = .ok (.bipush 20, 2) := by decide +kernel
theorem dX0_lifeOf_15 : decode cX0_lifeOf 15 = .ok (.if_icmp .lt 5, 3) := by decide +kernel
theorem dX0_lifeOf_18 : decode cX0_lifeOf 18 = .ok (.aconst_null, 1) := by decide +kernel
theorem dX0_lifeOf_19 : decode cX0_lifeOf 19 = .ok (.areturn, 1) := by decide +kernel
theorem dX0_lifeOf_20 : decode cX0_lifeOf 20 = .ok (.aload_n 0, 1) := by decide +kernel
theorem dX0_lifeOf_21 : decode cX0_lifeOf 21 = .ok (.getfield 20, 3) := by decide +kernel
theorem dX0_lifeOf_24 : decode cX0_lifeOf 24 = .ok (.iload_n 1, 1) := by decide +kernel
theorem dX0_lifeOf_25 : decode cX0_lifeOf 25 = .ok (.aaload, 1) := by decide +kernel
theorem dX0_lifeOf_26 : decode cX0_lifeOf 26 = .ok (.areturn, 1) := by decide +kernel
theorem dX0_join_0 : decode cX0_join 0 = .ok (.aload_n 0, 1) := by decide +kernel
theorem dX0_join_1 : decode cX0_join 1 = .ok (.invokevirtual 52, 3) := by decide +kernel
theorem dX0_join_4 : decode cX0_join 4 = .ok (.iconst 1, 1) := by decide +kernel
theorem dX0_join_5 : decode cX0_join 5 = .ok (.if_icmp .ge 6, 3) := by decide +kernel
theorem dX0_join_8 : decode cX0_join 8 = .ok (.bipush (-3), 2) := by decide +kernel
theorem dX0_join_10 : decode cX0_join 10 = .ok (.ireturn, 1) := by decide +kernel
theorem dX0_join_11 : decode cX0_join 11 = .ok (.aload_n 0, 1) := by decide +kernel
theorem dX0_join_12 : decode cX0_join 12 = .ok (.dup, 1) := by decide +kernel
theorem dX0_join_13 : decode cX0_join 13 = .ok (.getfield 35, 3) := by decide +kernel
theorem dX0_join_16 : decode cX0_join 16 = .ok (.iconst 1, 1) := by decide +kernel
theorem dX0_join_17 : decode cX0_join 17 = .ok (.iadd, 1) := by decide +kernel
theorem dX0_join_18 : decode cX0_join 18 = .ok (.putfield 35, 3) := by decide +kernel
theorem dX0_join_21 : decode cX0_join 21 = .ok (.aload_n 0, 1) := by decide +kernel
theorem dX0_join_22 : decode cX0_join 22 = .ok (.aload_n 0, 1) := by decide +kernel
theorem dX0_join_23 : decode cX0_join 23 = .ok (.getfield 35, 3) := by decide +kernel
theorem dX0_join_26 : decode cX0_join 26 = .ok (.iconst 1, 1) := by decide +kernel
theorem dX0_join_27 : decode cX0_join 27 = .ok (.isub, 1) := by decide +kernel
theorem dX0_join_28 : decode cX0_join 28 = .ok (.invokevirtual 44, 3) := by decide +kernel
theorem dX0_join_31 : decode cX0_join 31 = .ok (.astore_n 3, 1) := by decide +kernel
theorem dX0_join_32 : decode cX0_join 32 = .ok (.aload_n 3, 1) := by decide +kernel
theorem dX0_join_33 : decode cX0_join 33 = .ok (.ifnull 9, 3) := by decide +kernel
theorem dX0_join_36 : decode cX0_join 36 = .ok (.aload_n 3, 1) := by decide +kernel
theorem dX0_join_37 : decode cX0_join 37 = .ok (.iload_n 1, 1) := by decide +kernel
theorem dX0_join_38 : decode cX0_join 38 = .ok (.iload_n 2, 1) := by decide +kernel
theorem dX0_join_39 : decode cX0_join 39 = .ok (.invokevirtual 56, 3) := by decide +kernel
theorem dX0_join_42 : decode cX0_join 42 = .ok (.aload_n 0, 1) := by decide +kernel
theorem dX0_join_43 : decode cX0_join 43 = .ok (.getfield 35, 3) := by decide +kernel
theorem dX0_join_46 : decode cX0_join 46 = .ok (.iconst 1, 1) := by decide +kernel
theorem dX0_join_47 : decode cX0_join 47 = .ok (.isub, 1) := by decide +kernel
theorem dX0_join_48 : decode cX0_join 48 = .ok (.ireturn, 1) := by decide +kernel
theorem dX0_spendHours_0 : decode cX0_spendHours 0 = .ok (.aload_n 0, 1) := by decide +kernel
theorem dX0_spendHours_1 : decode cX0_spendHours 1 = .ok (.dup, 1) := by decide +kernel
theorem dX0_spendHours_2 : decode cX0_spendHours 2 = .ok (.getfield 25, 3) := by decide +kernel
theorem dX0_spendHours_5 : decode cX0_spendHours 5 = .ok (.iload_n 1, 1) := by decide +kernel
theorem dX0_spendHours_6 : decode cX0_spendHours 6 = .ok (.isub, 1) := by decide +kernel
theorem dX0_spendHours_7 : decode cX0_spendHours 7 = .ok (.putfield 25, 3) := by decide +kernel
theorem dX0_spendHours_10 : decode cX0_spendHours 10 = .ok (.return_, 1) := by decide +kernel
theorem dX0_setting_0 : decode cX0_setting 0 = .ok (.iload_n 1, 1) := by decide +kernel
theorem dX0_setting_1 : decode cX0_setting 1 = .ok (.invokestatic 70, 3) := by decide +kernel
theorem dX0_setting_4 : decode cX0_setting 4 = .ok (.ifCond .eq 12, 3) := by decide +kernel
theorem dX0_setting_7 : decode cX0_setting 7 = .ok (.aload_n 0, 1) := by decide +kernel
theorem dX0_setting_8 : decode cX0_setting 8 = .ok (.getfield 9, 3) := by decide +kernel
theorem dX0_setting_11 : decode cX0_setting 11 = .ok (.iload_n 1, 1) := by decide +kernel
theorem dX0_setting_12 : decode cX0_setting 12 = .ok (.iaload, 1) := by decide +kernel
theorem dX0_setting_13 : decode cX0_setting 13 = .ok (.goto 5, 3) := by decide +kernel
theorem dX0_setting_16 : decode cX0_setting 16 = .ok (.bipush (-2), 2) := by decide +kernel
theorem dX0_setting_18 : decode cX0_setting 18 = .ok (.ireturn, 1) := by decide +kernel
theorem dX0_changeSetting_0 : decode cX0_changeSetting 0 = .ok (.iload_n 1, 1) := by decide +kernel
theorem dX0_changeSetting_1 : decode cX0_changeSetting 1 = .ok (.invokestatic 70, 3) := by decide +kernel
theorem dX0_changeSetting_4 : decode cX0_changeSetting 4 = .ok (.ifCond .eq 10, 3) := by decide +kernel
theorem dX0_changeSetting_7 : decode cX0_changeSetting 7 = .ok (.aload_n 0, 1) := by decide +kernel
theorem dX0_changeSetting_8 : decode cX0_changeSetting 8 = .ok (.getfield 9, 3) := by decide +kernel
theorem dX0_changeSetting_11 : decode cX0_changeSetting 11 = .ok (.iload_n 1, 1) := by decide +kernel
theorem dX0_changeSetting_12 : decode cX0_changeSetting 12 = .ok (.iload_n 2, 1) := by decide +kernel
theorem dX0_changeSetting_13 : decode cX0_changeSetting 13 = .ok (.iastore, 1) := by decide +kernel
theorem dX0_changeSetting_14 : decode cX0_changeSetting 14 = .ok (.return_, 1) := by decide +kernel
theorem dX0_trustOf_0 : decode cX0_trustOf 0 = .ok (.iload_n 1, 1) := by decide +kernel
theorem dX0_trustOf_1 : decode cX0_trustOf 1 = .ok (.invokestatic 74, 3) := by decide +kernel
theorem dX0_trustOf_4 : decode cX0_trustOf 4 = .ok (.ifCond .eq 12, 3) := by decide +kernel
theorem dX0_trustOf_7 : decode cX0_trustOf 7 = .ok (.aload_n 0, 1) := by decide +kernel
theorem dX0_trustOf_8 : decode cX0_trustOf 8 = .ok (.getfield 15, 3) := by decide +kernel
theorem dX0_trustOf_11 : decode cX0_trustOf 11 = .ok (.iload_n 1, 1) := by decide +kernel
theorem dX0_trustOf_12 : decode cX0_trustOf 12 = .ok (.iaload, 1) := by decide +kernel
theorem dX0_trustOf_13 : decode cX0_trustOf 13 = .ok (.goto 4, 3) := by decide +kernel
theorem dX0_trustOf_16 : decode cX0_trustOf 16 = .ok (.iconst 0, 1) := by decide +kernel
theorem dX0_trustOf_17 : decode cX0_trustOf 17 = .ok (.ireturn, 1) := by decide +kernel
theorem dX0_changeTrust_0 : decode cX0_changeTrust 0 = .ok (.iload_n 1, 1) := by decide +kernel
theorem dX0_changeTrust_1 : decode cX0_changeTrust 1 = .ok (.invokestatic 74, 3) := by decide +kernel
theorem dX0_changeTrust_4 : decode cX0_changeTrust 4 = .ok (.ifCond .eq 10, 3) := by decide +kernel
theorem dX0_changeTrust_7 : decode cX0_changeTrust 7 = .ok (.aload_n 0, 1) := by decide +kernel
theorem dX0_changeTrust_8 : decode cX0_changeTrust 8 = .ok (.getfield 15, 3) := by decide +kernel
theorem dX0_changeTrust_11 : decode cX0_changeTrust 11 = .ok (.iload_n 1, 1) := by decide +kernel
theorem dX0_changeTrust_12 : decode cX0_changeTrust 12 = .ok (.iload_n 2, 1) := by decide +kernel
theorem dX0_changeTrust_13 : decode cX0_changeTrust 13 = .ok (.iastore, 1) := by decide +kernel
theorem dX0_changeTrust_14 : decode cX0_changeTrust 14 = .ok (.return_, 1) := by decide +kernel
theorem dX0_personsIn_0 : decode cX0_personsIn 0 = .ok (.iconst 0, 1) := by decide +kernel
theorem dX0_personsIn_1 : decode cX0_personsIn 1 = .ok (.istore_n 2, 1) := by decide +kernel
theorem dX0_personsIn_2 : decode cX0_personsIn 2 = .ok (.iconst 0, 1) := by decide +kernel
theorem dX0_personsIn_3 : decode cX0_personsIn 3 = .ok (.istore_n 3, 1) := by decide +kernel
theorem dX0_personsIn_4 : decode cX0_personsIn 4 = .ok (.iload_n 3, 1) := by decide +kernel
theorem dX0_personsIn_5 : decode cX0_personsIn 5 = .ok (.aload_n 0, 1) := by decide +kernel
theorem dX0_personsIn_6 : decode cX0_personsIn 6 = .ok (.getfield 35, 3) := by decide +kernel
theorem dX0_personsIn_9 : decode cX0_personsIn 9 = .ok (.if_icmp .ge 33, 3) := by decide +kernel
theorem dX0_personsIn_12 : decode cX0_personsIn 12 = .ok (.aload_n 0, 1) := by decide +kernel
theorem dX0_personsIn_13 : decode cX0_personsIn 13 = .ok (.iload_n 3, 1) := by decide +kernel
theorem dX0_personsIn_14 : decode cX0_personsIn 14 = .ok (.invokevirtual 44, 3) := by decide +kernel
theorem dX0_personsIn_17 : decode cX0_personsIn 17 = .ok (.astore 4, 2) := by decide +kernel
theorem dX0_personsIn_19 : decode cX0_personsIn 19 = .ok (.aload 4, 2) := by decide +kernel
theorem dX0_personsIn_21 : decode cX0_personsIn 21 = .ok (.ifnull 15, 3) := by decide +kernel
theorem dX0_personsIn_24 : decode cX0_personsIn 24 = .ok (.aload 4, 2) := by decide +kernel
theorem dX0_personsIn_26 : decode cX0_personsIn 26 = .ok (.iload_n 1, 1) := by decide +kernel
theorem dX0_personsIn_27 : decode cX0_personsIn 27 = .ok (.invokevirtual 77, 3) := by decide +kernel
theorem dX0_personsIn_30 : decode cX0_personsIn 30 = .ok (.ifCond .eq 6, 3) := by decide +kernel
theorem dX0_personsIn_33 : decode cX0_personsIn 33 = .ok (.iinc 2 1, 3) := by decide +kernel
theorem dX0_personsIn_36 : decode cX0_personsIn 36 = .ok (.iinc 3 1, 3) := by decide +kernel
theorem dX0_personsIn_39 : decode cX0_personsIn 39 = .ok (.goto (-35), 3) := by decide +kernel
theorem dX0_personsIn_42 : decode cX0_personsIn 42 = .ok (.iload_n 2, 1) := by decide +kernel
theorem dX0_personsIn_43 : decode cX0_personsIn 43 = .ok (.ireturn, 1) := by decide +kernel
theorem dX0_facts_0 : decode cX0_facts 0 = .ok (.iconst 0, 1) := by decide +kernel
theorem dX0_facts_1 : decode cX0_facts 1 = .ok (.istore_n 1, 1) := by decide +kernel
theorem dX0_facts_2 : decode cX0_facts 2 = .ok (.iconst 0, 1) := by decide +kernel
theorem dX0_facts_3 : decode cX0_facts 3 = .ok (.istore_n 2, 1) := by decide +kernel
theorem dX0_facts_4 : decode cX0_facts 4 = .ok (.iload_n 2, 1) := by decide +kernel
theorem dX0_facts_5 : decode cX0_facts 5 = .ok (.aload_n 0, 1) := by decide +kernel
theorem dX0_facts_6 : decode cX0_facts 6 = .ok (.getfield 35, 3) := by decide +kernel
theorem dX0_facts_9 : decode cX0_facts 9 = .ok (.if_icmp .ge 26, 3) := by decide +kernel
theorem dX0_facts_12 : decode cX0_facts 12 = .ok (.aload_n 0, 1) := by decide +kernel
theorem dX0_facts_13 : decode cX0_facts 13 = .ok (.iload_n 2, 1) := by decide +kernel
theorem dX0_facts_14 : decode cX0_facts 14 = .ok (.invokevirtual 44, 3) := by decide +kernel
theorem dX0_facts_17 : decode cX0_facts 17 = .ok (.astore_n 3, 1) := by decide +kernel
theorem dX0_facts_18 : decode cX0_facts 18 = .ok (.aload_n 3, 1) := by decide +kernel
theorem dX0_facts_19 : decode cX0_facts 19 = .ok (.ifnull 10, 3) := by decide +kernel
theorem dX0_facts_22 : decode cX0_facts 22 = .ok (.iload_n 1, 1) := by decide +kernel
theorem dX0_facts_23 : decode cX0_facts 23 = .ok (.aload_n 3, 1) := by decide +kernel
theorem dX0_facts_24 : decode cX0_facts 24 = .ok (.invokevirtual 80, 3) := by decide +kernel
theorem dX0_facts_27 : decode cX0_facts 27 = .ok (.iadd, 1) := by decide +kernel
theorem dX0_facts_28 : decode cX0_facts 28 = .ok (.istore_n 1, 1) := by decide +kernel
theorem dX0_facts_29 : decode cX0_facts 29 = .ok (.iinc 2 1, 3) := by decide +kernel
theorem dX0_facts_32 : decode cX0_facts 32 = .ok (.goto (-28), 3) := by decide +kernel
theorem dX0_facts_35 : decode cX0_facts 35 = .ok (.iload_n 1, 1) := by decide +kernel
theorem dX0_facts_36 : decode cX0_facts 36 = .ok (.ireturn, 1) := by decide +kernel
theorem dX0_worthOf_0 : decode cX0_worthOf 0 = .ok (.aload_n 0, 1) := by decide +kernel
theorem dX0_worthOf_1 : decode cX0_worthOf 1 = .ok (.aload_n 1, 1) := by decide +kernel
theorem dX0_worthOf_2 : decode cX0_worthOf 2 = .ok (.iload_n 2, 1) := by decide +kernel
theorem dX0_worthOf_3 : decode cX0_worthOf 3 = .ok (.invokevirtual 83, 3) := by decide +kernel
theorem dX0_worthOf_6 : decode cX0_worthOf 6 = .ok (.invokevirtual 87, 3) := by decide +kernel
theorem dX0_worthOf_9 : decode cX0_worthOf 9 = .ok (.i2f, 1) := by decide +kernel
theorem dX0_worthOf_10 : decode cX0_worthOf 10 = .ok (.ldc 90, 2) := by decide +kernel
theorem dX0_worthOf_12 : decode cX0_worthOf 12 = .ok (.fdiv, 1) := by decide +kernel
theorem dX0_worthOf_13 : decode cX0_worthOf 13 = .ok (.fstore 4, 2) := by decide +kernel
theorem dX0_worthOf_15 : decode cX0_worthOf 15 = .ok (.iload_n 3, 1) := by decide +kernel
theorem dX0_worthOf_16 : decode cX0_worthOf 16 = .ok (.aload_n 1, 1) := by decide +kernel
theorem dX0_worthOf_17 : decode cX0_worthOf 17 = .ok (.iload_n 2, 1) := by decide +kernel
theorem dX0_worthOf_18 : decode cX0_worthOf 18 = .ok (.invokevirtual 91, 3) := by decide +kernel
theorem dX0_worthOf_21 : decode cX0_worthOf 21 = .ok (.isub, 1) := by decide +kernel
theorem dX0_worthOf_22 : decode cX0_worthOf 22 = .ok (.bipush 10, 2) := by decide +kernel
theorem dX0_worthOf_24 : decode cX0_worthOf 24 = .ok (.idiv, 1) := by decide +kernel
theorem dX0_worthOf_25 : decode cX0_worthOf 25 = .ok (.istore 5, 2) := by decide +kernel
theorem dX0_worthOf_27 : decode cX0_worthOf 27 = .ok (.iconst 0, 1) := by decide +kernel
theorem dX0_worthOf_28 : decode cX0_worthOf 28 = .ok (.istore 6, 2) := by decide +kernel
theorem dX0_worthOf_30 : decode cX0_worthOf 30 = .ok (.iload 6, 2) := by decide +kernel
theorem dX0_worthOf_32 : decode cX0_worthOf 32 = .ok (.iload 5, 2) := by decide +kernel
theorem dX0_worthOf_34 : decode cX0_worthOf 34 = .ok (.if_icmp .ge 16, 3) := by decide +kernel
theorem dX0_worthOf_37 : decode cX0_worthOf 37 = .ok (.fload 4, 2) := by decide +kernel
theorem dX0_worthOf_39 : decode cX0_worthOf 39 = .ok (.ldc 94, 2) := by decide +kernel
theorem dX0_worthOf_41 : decode cX0_worthOf 41 = .ok (.fmul, 1) := by decide +kernel
theorem dX0_worthOf_42 : decode cX0_worthOf 42 = .ok (.fstore 4, 2) := by decide +kernel
theorem dX0_worthOf_44 : decode cX0_worthOf 44 = .ok (.iinc 6 1, 3) := by decide +kernel
theorem dX0_worthOf_47 : decode cX0_worthOf 47 = .ok (.goto (-17), 3) := by decide +kernel
theorem dX0_worthOf_50 : decode cX0_worthOf 50 = .ok (.fload 4, 2) := by decide +kernel
theorem dX0_worthOf_52 : decode cX0_worthOf 52 = .ok (.freturn, 1) := by decide +kernel
theorem dX0_worthOfLife_0 : decode cX0_worthOfLife 0 = .ok (.fconst 0, 1) := by decide +kernel
theorem dX0_worthOfLife_1 : decode cX0_worthOfLife 1 = .ok (.fstore_n 2, 1) := by decide +kernel
theorem dX0_worthOfLife_2 : decode cX0_worthOfLife 2 = .ok (.iconst 0, 1) := by decide +kernel
theorem dX0_worthOfLife_3 : decode cX0_worthOfLife 3 = .ok (.istore_n 3, 1) := by decide +kernel
theorem dX0_worthOfLife_4 : decode cX0_worthOfLife 4 = .ok (.iload_n 3, 1) := by decide +kernel
theorem dX0_worthOfLife_5 : decode cX0_worthOfLife 5 = .ok (.aload_n 1, 1) := by decide +kernel
theorem dX0_worthOfLife_6 : decode cX0_worthOfLife 6 = .ok (.invokevirtual 80, 3) := by decide +kernel
theorem dX0_worthOfLife_9 : decode cX0_worthOfLife 9 = .ok (.if_icmp .ge 29, 3) := by decide +kernel
theorem dX0_worthOfLife_12 : decode cX0_worthOfLife 12 = .ok (.fload_n 2, 1) := by decide +kernel
theorem dX0_worthOfLife_13 : decode cX0_worthOfLife 13 = .ok (.aload_n 0, 1) := by decide +kernel
theorem dX0_worthOfLife_14 : decode cX0_worthOfLife 14 = .ok (.aload_n 1, 1) := by decide +kernel
theorem dX0_worthOfLife_15 : decode cX0_worthOfLife 15 = .ok (.iload_n 3, 1) := by decide +kernel
theorem dX0_worthOfLife_16 : decode cX0_worthOfLife 16 = .ok (.aload_n 0, 1) := by decide +kernel
theorem dX0_worthOfLife_17 : decode cX0_worthOfLife 17 = .ok (.getfield 38, 3) := by decide +kernel
theorem dX0_worthOfLife_20 : decode cX0_worthOfLife 20 = .ok (.invokevirtual 95, 3) := by decide +kernel
theorem dX0_worthOfLife_23 : decode cX0_worthOfLife 23 = .ok (.aload_n 1, 1) := by decide +kernel
theorem dX0_worthOfLife_24 : decode cX0_worthOfLife 24 = .ok (.iload_n 3, 1) := by decide +kernel
theorem dX0_worthOfLife_25 : decode cX0_worthOfLife 25 = .ok (.invokevirtual 99, 3) := by decide +kernel
theorem dX0_worthOfLife_28 : decode cX0_worthOfLife 28 = .ok (.i2f, 1) := by decide +kernel
theorem dX0_worthOfLife_29 : decode cX0_worthOfLife 29 = .ok (.fmul, 1) := by decide +kernel
theorem dX0_worthOfLife_30 : decode cX0_worthOfLife 30 = .ok (.fadd, 1) := by decide +kernel
theorem dX0_worthOfLife_31 : decode cX0_worthOfLife 31 = .ok (.fstore_n 2, 1) := by decide +kernel
theorem dX0_worthOfLife_32 : decode cX0_worthOfLife 32 = .ok (.iinc 3 1, 3) := by decide +kernel
theorem dX0_worthOfLife_35 : decode cX0_worthOfLife 35 = .ok (.goto (-31), 3) := by decide +kernel
theorem dX0_worthOfLife_38 : decode cX0_worthOfLife 38 = .ok (.fload_n 2, 1) := by decide +kernel
theorem dX0_worthOfLife_39 : decode cX0_worthOfLife 39 = .ok (.freturn, 1) := by decide +kernel
theorem dX0_bound_0 : decode cX0_bound 0 = .ok (.aload_n 0, 1) := by decide +kernel
theorem dX0_bound_1 : decode cX0_bound 1 = .ok (.iconst 2, 1) := by decide +kernel
theorem dX0_bound_2 : decode cX0_bound 2 = .ok (.invokevirtual 102, 3) := by decide +kernel
theorem dX0_bound_5 : decode cX0_bound 5 = .ok (.i2f, 1) := by decide +kernel
theorem dX0_bound_6 : decode cX0_bound 6 = .ok (.ldc 90, 2) := by decide +kernel
theorem dX0_bound_8 : decode cX0_bound 8 = .ok (.fdiv, 1) := by decide +kernel
theorem dX0_bound_9 : decode cX0_bound 9 = .ok (.freturn, 1) := by decide +kernel
theorem dX0_isStale_0 : decode cX0_isStale 0 = .ok (.aload_n 0, 1) := by decide +kernel
theorem dX0_isStale_1 : decode cX0_isStale 1 = .ok (.aload_n 1, 1) := by decide +kernel
theorem dX0_isStale_2 : decode cX0_isStale 2 = .ok (.iload_n 2, 1) := by decide +kernel
theorem dX0_isStale_3 : decode cX0_isStale 3 = .ok (.aload_n 0, 1) := by decide +kernel
theorem dX0_isStale_4 : decode cX0_isStale 4 = .ok (.getfield 38, 3) := by decide +kernel
theorem dX0_isStale_7 : decode cX0_isStale 7 = .ok (.invokevirtual 95, 3) := by decide +kernel
theorem dX0_isStale_10 : decode cX0_isStale 10 = .ok (.aload_n 0, 1) := by decide +kernel
theorem dX0_isStale_11 : decode cX0_isStale 11 = .ok (.invokevirtual 105, 3) := by decide +kernel
theorem dX0_isStale_14 : decode cX0_isStale 14 = .ok (.fcmp .g, 1) := by decide +kernel
theorem dX0_isStale_15 : decode cX0_isStale 15 = .ok (.ifCond .ge 7, 3) := by decide +kernel
theorem dX0_isStale_18 : decode cX0_isStale 18 = .ok (.iconst 1, 1) := by decide +kernel
theorem dX0_isStale_19 : decode cX0_isStale 19 = .ok (.goto 4, 3) := by decide +kernel
theorem dX0_isStale_22 : decode cX0_isStale 22 = .ok (.iconst 0, 1) := by decide +kernel
theorem dX0_isStale_23 : decode cX0_isStale 23 = .ok (.ireturn, 1) := by decide +kernel
theorem dX0_staleFactsOf_0 : decode cX0_staleFactsOf 0 = .ok (.aload_n 0, 1) := by decide +kernel
theorem dX0_staleFactsOf_1 : decode cX0_staleFactsOf 1 = .ok (.invokevirtual 105, 3) := by decide +kernel
theorem dX0_staleFactsOf_4 : decode cX0_staleFactsOf 4 = .ok (.fstore_n 3, 1) := by decide +kernel
theorem dX0_staleFactsOf_5 : decode cX0_staleFactsOf 5 = .ok (.iconst 0, 1) := by decide +kernel
theorem dX0_staleFactsOf_6 : decode cX0_staleFactsOf 6 = .ok (.istore 4, 2) := by decide +kernel
theorem dX0_staleFactsOf_8 : decode cX0_staleFactsOf 8 = .ok (.iconst 0, 1) := by decide +kernel
theorem dX0_staleFactsOf_9 : decode cX0_staleFactsOf 9 = .ok (.istore 5, 2) := by decide +kernel
theorem dX0_staleFactsOf_11 : decode cX0_staleFactsOf 11 = .ok (.iload 5, 2) := by decide +kernel
theorem dX0_staleFactsOf_13 : decode cX0_staleFactsOf 13 = .ok (.aload_n 1, 1) := by decide +kernel
theorem dX0_staleFactsOf_14 : decode cX0_staleFactsOf 14 = .ok (.invokevirtual 80, 3) := by decide +kernel
theorem dX0_staleFactsOf_17 : decode cX0_staleFactsOf 17 = .ok (.if_icmp .ge 25, 3) := by decide +kernel
theorem dX0_staleFactsOf_20 : decode cX0_staleFactsOf 20 = .ok (.aload_n 0, 1) := by decide +kernel
theorem dX0_staleFactsOf_21 : decode cX0_staleFactsOf 21 = .ok (.aload_n 1, 1) := by decide +kernel
theorem dX0_staleFactsOf_22 : decode cX0_staleFactsOf 22 = .ok (.iload 5, 2) := by decide +kernel
theorem dX0_staleFactsOf_24 : decode cX0_staleFactsOf 24 = .ok (.iload_n 2, 1) := by decide +kernel
theorem dX0_staleFactsOf_25 : decode cX0_staleFactsOf 25 = .ok (.invokevirtual 95, 3) := by decide +kernel
theorem dX0_staleFactsOf_28 : decode cX0_staleFactsOf 28 = .ok (.fload_n 3, 1) := by decide +kernel
theorem dX0_staleFactsOf_29 : decode cX0_staleFactsOf 29 = .ok (.fcmp .g, 1) := by decide +kernel
theorem dX0_staleFactsOf_30 : decode cX0_staleFactsOf 30 = .ok (.ifCond .ge 6, 3) := by decide +kernel
theorem dX0_staleFactsOf_33 : decode cX0_staleFactsOf 33 = .ok (.iinc 4 1, 3) := by decide +kernel
theorem dX0_staleFactsOf_36 : decode cX0_staleFactsOf 36 = .ok (.iinc 5 1, 3) := by decide +kernel
theorem dX0_staleFactsOf_39 : decode cX0_staleFactsOf 39 = .ok (.goto (-28), 3) := by decide +kernel
theorem dX0_staleFactsOf_42 : decode cX0_staleFactsOf 42 = .ok (.iload 4, 2) := by decide +kernel
theorem dX0_staleFactsOf_44 : decode cX0_staleFactsOf 44 = .ok (.ireturn, 1) := by decide +kernel
theorem dX0_staleFactsOn_0 : decode cX0_staleFactsOn 0 = .ok (.iconst 0, 1) := by decide +kernel
theorem dX0_staleFactsOn_1 : decode cX0_staleFactsOn 1 = .ok (.istore_n 2, 1) := by decide +kernel
theorem dX0_staleFactsOn_2 : decode cX0_staleFactsOn 2 = .ok (.iconst 0, 1) := by decide +kernel
theorem dX0_staleFactsOn_3 : decode cX0_staleFactsOn 3 = .ok (.istore_n 3, 1) := by decide +kernel
theorem dX0_staleFactsOn_4 : decode cX0_staleFactsOn 4 = .ok (.iload_n 3, 1) := by decide +kernel
theorem dX0_staleFactsOn_5 : decode cX0_staleFactsOn 5 = .ok (.aload_n 0, 1) := by decide +kernel
theorem dX0_staleFactsOn_6 : decode cX0_staleFactsOn 6 = .ok (.getfield 35, 3) := by decide +kernel
theorem dX0_staleFactsOn_9 : decode cX0_staleFactsOn 9 = .ok (.if_icmp .ge 40, 3) := by decide +kernel
theorem dX0_staleFactsOn_12 : decode cX0_staleFactsOn 12 = .ok (.aload_n 0, 1) := by decide +kernel
theorem dX0_staleFactsOn_13 : decode cX0_staleFactsOn 13 = .ok (.iload_n 3, 1) := by decide +kernel
theorem dX0_staleFactsOn_14 : decode cX0_staleFactsOn 14 = .ok (.invokevirtual 44, 3) := by decide +kernel
theorem dX0_staleFactsOn_17 : decode cX0_staleFactsOn 17 = .ok (.astore 4, 2) := by decide +kernel
theorem dX0_staleFactsOn_19 : decode cX0_staleFactsOn 19 = .ok (.aload 4, 2) := by decide +kernel
theorem dX0_staleFactsOn_21 : decode cX0_staleFactsOn 21 = .ok (.ifnull 22, 3) := by decide +kernel
theorem dX0_staleFactsOn_24 : decode cX0_staleFactsOn 24 = .ok (.aload 4, 2) := by decide +kernel
theorem dX0_staleFactsOn_26 : decode cX0_staleFactsOn 26 = .ok (.iconst 3, 1) := by decide +kernel
theorem dX0_staleFactsOn_27 : decode cX0_staleFactsOn 27 = .ok (.invokevirtual 77, 3) := by decide +kernel
theorem dX0_staleFactsOn_30 : decode cX0_staleFactsOn 30 = .ok (.ifCond .ne 13, 3) := by decide +kernel
theorem dX0_staleFactsOn_33 : decode cX0_staleFactsOn 33 = .ok (.iload_n 2, 1) := by decide +kernel
theorem dX0_staleFactsOn_34 : decode cX0_staleFactsOn 34 = .ok (.aload_n 0, 1) := by decide +kernel
theorem dX0_staleFactsOn_35 : decode cX0_staleFactsOn 35 = .ok (.aload 4, 2) := by decide +kernel
theorem dX0_staleFactsOn_37 : decode cX0_staleFactsOn 37 = .ok (.iload_n 1, 1) := by decide +kernel
theorem dX0_staleFactsOn_38 : decode cX0_staleFactsOn 38 = .ok (.invokevirtual 109, 3) := by decide +kernel
theorem dX0_staleFactsOn_41 : decode cX0_staleFactsOn 41 = .ok (.iadd, 1) := by decide +kernel
theorem dX0_staleFactsOn_42 : decode cX0_staleFactsOn 42 = .ok (.istore_n 2, 1) := by decide +kernel
theorem dX0_staleFactsOn_43 : decode cX0_staleFactsOn 43 = .ok (.iinc 3 1, 3) := by decide +kernel
theorem dX0_staleFactsOn_46 : decode cX0_staleFactsOn 46 = .ok (.goto (-42), 3) := by decide +kernel
theorem dX0_staleFactsOn_49 : decode cX0_staleFactsOn 49 = .ok (.iload_n 2, 1) := by decide +kernel
theorem dX0_staleFactsOn_50 : decode cX0_staleFactsOn 50 = .ok (.ireturn, 1) := by decide +kernel
theorem dX0_factsFrom_0 : decode cX0_factsFrom 0 = .ok (.iconst 0, 1) := by decide +kernel
theorem dX0_factsFrom_1 : decode cX0_factsFrom 1 = .ok (.istore_n 2, 1) := by decide +kernel
theorem dX0_factsFrom_2 : decode cX0_factsFrom 2 = .ok (.iconst 0, 1) := by decide +kernel
theorem dX0_factsFrom_3 : decode cX0_factsFrom 3 = .ok (.istore_n 3, 1) := by decide +kernel
theorem dX0_factsFrom_4 : decode cX0_factsFrom 4 = .ok (.iload_n 3, 1) := by decide +kernel
theorem dX0_factsFrom_5 : decode cX0_factsFrom 5 = .ok (.aload_n 0, 1) := by decide +kernel
theorem dX0_factsFrom_6 : decode cX0_factsFrom 6 = .ok (.getfield 35, 3) := by decide +kernel
theorem dX0_factsFrom_9 : decode cX0_factsFrom 9 = .ok (.if_icmp .ge 54, 3) := by decide +kernel
theorem dX0_factsFrom_12 : decode cX0_factsFrom 12 = .ok (.aload_n 0, 1) := by decide +kernel
theorem dX0_factsFrom_13 : decode cX0_factsFrom 13 = .ok (.iload_n 3, 1) := by decide +kernel
theorem dX0_factsFrom_14 : decode cX0_factsFrom 14 = .ok (.invokevirtual 44, 3) := by decide +kernel
theorem dX0_factsFrom_17 : decode cX0_factsFrom 17 = .ok (.astore 4, 2) := by decide +kernel
theorem dX0_factsFrom_19 : decode cX0_factsFrom 19 = .ok (.iconst 0, 1) := by decide +kernel
theorem dX0_factsFrom_20 : decode cX0_factsFrom 20 = .ok (.istore 5, 2) := by decide +kernel
theorem dX0_factsFrom_22 : decode cX0_factsFrom 22 = .ok (.aload 4, 2) := by decide +kernel
theorem dX0_factsFrom_24 : decode cX0_factsFrom 24 = .ok (.ifnull 33, 3) := by decide +kernel
theorem dX0_factsFrom_27 : decode cX0_factsFrom 27 = .ok (.iload 5, 2) := by decide +kernel
theorem dX0_factsFrom_29 : decode cX0_factsFrom 29 = .ok (.aload 4, 2) := by decide +kernel
theorem dX0_factsFrom_31 : decode cX0_factsFrom 31 = .ok (.invokevirtual 80, 3) := by decide +kernel
theorem dX0_factsFrom_34 : decode cX0_factsFrom 34 = .ok (.if_icmp .ge 23, 3) := by decide +kernel
theorem dX0_factsFrom_37 : decode cX0_factsFrom 37 = .ok (.aload 4, 2) := by decide +kernel
theorem dX0_factsFrom_39 : decode cX0_factsFrom 39 = .ok (.iload 5, 2) := by decide +kernel
theorem dX0_factsFrom_41 : decode cX0_factsFrom 41 = .ok (.invokevirtual 83, 3) := by decide +kernel
theorem dX0_factsFrom_44 : decode cX0_factsFrom 44 = .ok (.iload_n 1, 1) := by decide +kernel
theorem dX0_factsFrom_45 : decode cX0_factsFrom 45 = .ok (.if_icmp .ne 6, 3) := by decide +kernel
theorem dX0_factsFrom_48 : decode cX0_factsFrom 48 = .ok (.iinc 2 1, 3) := by decide +kernel
theorem dX0_factsFrom_51 : decode cX0_factsFrom 51 = .ok (.iinc 5 1, 3) := by decide +kernel
theorem dX0_factsFrom_54 : decode cX0_factsFrom 54 = .ok (.goto (-32), 3) := by decide +kernel
theorem dX0_factsFrom_57 : decode cX0_factsFrom 57 = .ok (.iinc 3 1, 3) := by decide +kernel
theorem dX0_factsFrom_60 : decode cX0_factsFrom 60 = .ok (.goto (-56), 3) := by decide +kernel
theorem dX0_factsFrom_63 : decode cX0_factsFrom 63 = .ok (.iload_n 2, 1) := by decide +kernel
theorem dX0_factsFrom_64 : decode cX0_factsFrom 64 = .ok (.ireturn, 1) := by decide +kernel
theorem dX0_staleFactsFrom_0 : decode cX0_staleFactsFrom 0 = .ok (.iconst 0, 1) := by decide +kernel
theorem dX0_staleFactsFrom_1 : decode cX0_staleFactsFrom 1 = .ok (.istore_n 2, 1) := by decide +kernel
theorem dX0_staleFactsFrom_2 : decode cX0_staleFactsFrom 2 = .ok (.iconst 0, 1) := by decide +kernel
theorem dX0_staleFactsFrom_3 : decode cX0_staleFactsFrom 3 = .ok (.istore_n 3, 1) := by decide +kernel
theorem dX0_staleFactsFrom_4 : decode cX0_staleFactsFrom 4 = .ok (.iload_n 3, 1) := by decide +kernel
theorem dX0_staleFactsFrom_5 : decode cX0_staleFactsFrom 5 = .ok (.aload_n 0, 1) := by decide +kernel
theorem dX0_staleFactsFrom_6 : decode cX0_staleFactsFrom 6 = .ok (.getfield 35, 3) := by decide +kernel
theorem dX0_staleFactsFrom_9 : decode cX0_staleFactsFrom 9 = .ok (.if_icmp .ge 65, 3) := by decide +kernel
theorem dX0_staleFactsFrom_12 : decode cX0_staleFactsFrom 12 = .ok (.aload_n 0, 1) := by decide +kernel
theorem dX0_staleFactsFrom_13 : decode cX0_staleFactsFrom 13 = .ok (.iload_n 3, 1) := by decide +kernel
theorem dX0_staleFactsFrom_14 : decode cX0_staleFactsFrom 14 = .ok (.invokevirtual 44, 3) := by decide +kernel
theorem dX0_staleFactsFrom_17 : decode cX0_staleFactsFrom 17 = .ok (.astore 4, 2) := by decide +kernel
theorem dX0_staleFactsFrom_19 : decode cX0_staleFactsFrom 19 = .ok (.iconst 0, 1) := by decide +kernel
theorem dX0_staleFactsFrom_20 : decode cX0_staleFactsFrom 20 = .ok (.istore 5, 2) := by decide +kernel
theorem dX0_staleFactsFrom_22 : decode cX0_staleFactsFrom 22 = .ok (.aload 4, 2) := by decide +kernel
theorem dX0_staleFactsFrom_24 : decode cX0_staleFactsFrom 24 = .ok (.ifnull 44, 3) := by decide +kernel
theorem dX0_staleFactsFrom_27 : decode cX0_staleFactsFrom 27 = .ok (.iload 5, 2) := by decide +kernel
theorem dX0_staleFactsFrom_29 : decode cX0_staleFactsFrom 29 = .ok (.aload 4, 2) := by decide +kernel
theorem dX0_staleFactsFrom_31 : decode cX0_staleFactsFrom 31 = .ok (.invokevirtual 80, 3) := by decide +kernel
theorem dX0_staleFactsFrom_34 : decode cX0_staleFactsFrom 34 = .ok (.if_icmp .ge 34, 3) := by decide +kernel
theorem dX0_staleFactsFrom_37 : decode cX0_staleFactsFrom 37 = .ok (.aload 4, 2) := by decide +kernel
theorem dX0_staleFactsFrom_39 : decode cX0_staleFactsFrom 39 = .ok (.iload 5, 2) := by decide +kernel
theorem dX0_staleFactsFrom_41 : decode cX0_staleFactsFrom 41 = .ok (.invokevirtual 83, 3) := by decide +kernel
theorem dX0_staleFactsFrom_44 : decode cX0_staleFactsFrom 44 = .ok (.iload_n 1, 1) := by decide +kernel
theorem dX0_staleFactsFrom_45 : decode cX0_staleFactsFrom 45 = .ok (.if_icmp .ne 17, 3) := by decide +kernel
theorem dX0_staleFactsFrom_48 : decode cX0_staleFactsFrom 48 = .ok (.aload_n 0, 1) := by decide +kernel
theorem dX0_staleFactsFrom_49 : decode cX0_staleFactsFrom 49 = .ok (.aload 4, 2) := by decide +kernel
theorem dX0_staleFactsFrom_51 : decode cX0_staleFactsFrom 51 = .ok (.iload 5, 2) := by decide +kernel
theorem dX0_staleFactsFrom_53 : decode cX0_staleFactsFrom 53 = .ok (.invokevirtual 113, 3) := by decide +kernel
theorem dX0_staleFactsFrom_56 : decode cX0_staleFactsFrom 56 = .ok (.ifCond .eq 6, 3) := by decide +kernel
theorem dX0_staleFactsFrom_59 : decode cX0_staleFactsFrom 59 = .ok (.iinc 2 1, 3) := by decide +kernel
theorem dX0_staleFactsFrom_62 : decode cX0_staleFactsFrom 62 = .ok (.iinc 5 1, 3) := by decide +kernel
theorem dX0_staleFactsFrom_65 : decode cX0_staleFactsFrom 65 = .ok (.goto (-43), 3) := by decide +kernel
theorem dX0_staleFactsFrom_68 : decode cX0_staleFactsFrom 68 = .ok (.iinc 3 1, 3) := by decide +kernel
theorem dX0_staleFactsFrom_71 : decode cX0_staleFactsFrom 71 = .ok (.goto (-67), 3) := by decide +kernel
theorem dX0_staleFactsFrom_74 : decode cX0_staleFactsFrom 74 = .ok (.iload_n 2, 1) := by decide +kernel
theorem dX0_staleFactsFrom_75 : decode cX0_staleFactsFrom 75 = .ok (.ireturn, 1) := by decide +kernel
theorem dX0_linesFrom_0 : decode cX0_linesFrom 0 = .ok (.iconst 0, 1) := by decide +kernel
theorem dX0_linesFrom_1 : decode cX0_linesFrom 1 = .ok (.istore_n 2, 1) := by decide +kernel
theorem dX0_linesFrom_2 : decode cX0_linesFrom 2 = .ok (.iconst 0, 1) := by decide +kernel
theorem dX0_linesFrom_3 : decode cX0_linesFrom 3 = .ok (.istore_n 3, 1) := by decide +kernel
theorem dX0_linesFrom_4 : decode cX0_linesFrom 4 = .ok (.iload_n 3, 1) := by decide +kernel
theorem dX0_linesFrom_5 : decode cX0_linesFrom 5 = .ok (.aload_n 0, 1) := by decide +kernel
theorem dX0_linesFrom_6 : decode cX0_linesFrom 6 = .ok (.getfield 35, 3) := by decide +kernel
theorem dX0_linesFrom_9 : decode cX0_linesFrom 9 = .ok (.if_icmp .ge 61, 3) := by decide +kernel
theorem dX0_linesFrom_12 : decode cX0_linesFrom 12 = .ok (.aload_n 0, 1) := by decide +kernel
theorem dX0_linesFrom_13 : decode cX0_linesFrom 13 = .ok (.iload_n 3, 1) := by decide +kernel
theorem dX0_linesFrom_14 : decode cX0_linesFrom 14 = .ok (.invokevirtual 44, 3) := by decide +kernel
theorem dX0_linesFrom_17 : decode cX0_linesFrom 17 = .ok (.astore 4, 2) := by decide +kernel
theorem dX0_linesFrom_19 : decode cX0_linesFrom 19 = .ok (.iconst 0, 1) := by decide +kernel
theorem dX0_linesFrom_20 : decode cX0_linesFrom 20 = .ok (.istore 5, 2) := by decide +kernel
theorem dX0_linesFrom_22 : decode cX0_linesFrom 22 = .ok (.aload 4, 2) := by decide +kernel
theorem dX0_linesFrom_24 : decode cX0_linesFrom 24 = .ok (.ifnull 40, 3) := by decide +kernel
theorem dX0_linesFrom_27 : decode cX0_linesFrom 27 = .ok (.iload 5, 2) := by decide +kernel
theorem dX0_linesFrom_29 : decode cX0_linesFrom 29 = .ok (.aload 4, 2) := by decide +kernel
theorem dX0_linesFrom_31 : decode cX0_linesFrom 31 = .ok (.invokevirtual 80, 3) := by decide +kernel
theorem dX0_linesFrom_34 : decode cX0_linesFrom 34 = .ok (.if_icmp .ge 30, 3) := by decide +kernel
theorem dX0_linesFrom_37 : decode cX0_linesFrom 37 = .ok (.aload 4, 2) := by decide +kernel
theorem dX0_linesFrom_39 : decode cX0_linesFrom 39 = .ok (.iload 5, 2) := by decide +kernel
theorem dX0_linesFrom_41 : decode cX0_linesFrom 41 = .ok (.invokevirtual 83, 3) := by decide +kernel
theorem dX0_linesFrom_44 : decode cX0_linesFrom 44 = .ok (.iload_n 1, 1) := by decide +kernel
theorem dX0_linesFrom_45 : decode cX0_linesFrom 45 = .ok (.if_icmp .ne 13, 3) := by decide +kernel
theorem dX0_linesFrom_48 : decode cX0_linesFrom 48 = .ok (.iload_n 2, 1) := by decide +kernel
theorem dX0_linesFrom_49 : decode cX0_linesFrom 49 = .ok (.aload 4, 2) := by decide +kernel
theorem dX0_linesFrom_51 : decode cX0_linesFrom 51 = .ok (.iload 5, 2) := by decide +kernel
theorem dX0_linesFrom_53 : decode cX0_linesFrom 53 = .ok (.invokevirtual 99, 3) := by decide +kernel
theorem dX0_linesFrom_56 : decode cX0_linesFrom 56 = .ok (.iadd, 1) := by decide +kernel
theorem dX0_linesFrom_57 : decode cX0_linesFrom 57 = .ok (.istore_n 2, 1) := by decide +kernel
theorem dX0_linesFrom_58 : decode cX0_linesFrom 58 = .ok (.iinc 5 1, 3) := by decide +kernel
theorem dX0_linesFrom_61 : decode cX0_linesFrom 61 = .ok (.goto (-39), 3) := by decide +kernel
theorem dX0_linesFrom_64 : decode cX0_linesFrom 64 = .ok (.iinc 3 1, 3) := by decide +kernel
theorem dX0_linesFrom_67 : decode cX0_linesFrom 67 = .ok (.goto (-63), 3) := by decide +kernel
theorem dX0_linesFrom_70 : decode cX0_linesFrom 70 = .ok (.iload_n 2, 1) := by decide +kernel
theorem dX0_linesFrom_71 : decode cX0_linesFrom 71 = .ok (.ireturn, 1) := by decide +kernel
theorem dX0_urgencyOf_0 : decode cX0_urgencyOf 0 = .ok (.aload_n 1, 1) := by decide +kernel
theorem dX0_urgencyOf_1 : decode cX0_urgencyOf 1 = .ok (.invokevirtual 60, 3) := by decide +kernel
theorem dX0_urgencyOf_4 : decode cX0_urgencyOf 4 = .ok (.bipush 10, 2) := by decide +kernel
theorem dX0_urgencyOf_6 : decode cX0_urgencyOf 6 = .ok (.aload_n 1, 1) := by decide +kernel
theorem dX0_urgencyOf_7 : decode cX0_urgencyOf 7 = .ok (.invokevirtual 63, 3) := by decide +kernel
theorem dX0_urgencyOf_10 : decode cX0_urgencyOf 10 = .ok (.imul, 1) := by decide +kernel
theorem dX0_urgencyOf_11 : decode cX0_urgencyOf 11 = .ok (.iadd, 1) := by decide +kernel
theorem dX0_urgencyOf_12 : decode cX0_urgencyOf 12 = .ok (.iconst 5, 1) := by decide +kernel
theorem dX0_urgencyOf_13 : decode cX0_urgencyOf 13 = .ok (.aload_n 0, 1) := by decide +kernel
theorem dX0_urgencyOf_14 : decode cX0_urgencyOf 14 = .ok (.aload_n 1, 1) := by decide +kernel
theorem dX0_urgencyOf_15 : decode cX0_urgencyOf 15 = .ok (.aload_n 0, 1) := by decide +kernel
theorem dX0_urgencyOf_16 : decode cX0_urgencyOf 16 = .ok (.getfield 38, 3) := by decide +kernel
theorem dX0_urgencyOf_19 : decode cX0_urgencyOf 19 = .ok (.invokevirtual 109, 3) := by decide +kernel
theorem dX0_urgencyOf_22 : decode cX0_urgencyOf 22 = .ok (.imul, 1) := by decide +kernel
theorem dX0_urgencyOf_23 : decode cX0_urgencyOf 23 = .ok (.iadd, 1) := by decide +kernel
theorem dX0_urgencyOf_24 : decode cX0_urgencyOf 24 = .ok (.istore_n 2, 1) := by decide +kernel
theorem dX0_urgencyOf_25 : decode cX0_urgencyOf 25 = .ok (.aload_n 1, 1) := by decide +kernel
theorem dX0_urgencyOf_26 : decode cX0_urgencyOf 26 = .ok (.invokevirtual 80, 3) := by decide +kernel
theorem dX0_urgencyOf_29 : decode cX0_urgencyOf 29 = .ok (.ifCond .ne 10, 3) := by decide +kernel
theorem dX0_urgencyOf_32 : decode cX0_urgencyOf 32 = .ok (.iload_n 2, 1) := by decide +kernel
theorem dX0_urgencyOf_33 : decode cX0_urgencyOf 33 = .ok (.bipush 40, 2) := by decide +kernel
theorem dX0_urgencyOf_35 : decode cX0_urgencyOf 35 = .ok (.iadd, 1) := by decide +kernel
theorem dX0_urgencyOf_36 : decode cX0_urgencyOf 36 = .ok (.goto 4, 3) := by decide +kernel
theorem dX0_urgencyOf_39 : decode cX0_urgencyOf 39 = .ok (.iload_n 2, 1) := by decide +kernel
theorem dX0_urgencyOf_40 : decode cX0_urgencyOf 40 = .ok (.ireturn, 1) := by decide +kernel
theorem dX0_rankUrgencies_0 : decode cX0_rankUrgencies 0 = .ok (.aload_n 1, 1) := by decide +kernel
theorem dX0_rankUrgencies_1 : decode cX0_rankUrgencies 1 = .ok (.invokevirtual 117, 3) := by decide +kernel
theorem dX0_rankUrgencies_4 : decode cX0_rankUrgencies 4 = .ok (.iconst 0, 1) := by decide +kernel
theorem dX0_rankUrgencies_5 : decode cX0_rankUrgencies 5 = .ok (.istore_n 2, 1) := by decide +kernel
theorem dX0_rankUrgencies_6 : decode cX0_rankUrgencies 6 = .ok (.iload_n 2, 1) := by decide +kernel
theorem dX0_rankUrgencies_7 : decode cX0_rankUrgencies 7 = .ok (.aload_n 0, 1) := by decide +kernel
theorem dX0_rankUrgencies_8 : decode cX0_rankUrgencies 8 = .ok (.getfield 35, 3) := by decide +kernel
theorem dX0_rankUrgencies_11 : decode cX0_rankUrgencies 11 = .ok (.if_icmp .ge 37, 3) := by decide +kernel
theorem dX0_rankUrgencies_14 : decode cX0_rankUrgencies 14 = .ok (.aload_n 0, 1) := by decide +kernel
theorem dX0_rankUrgencies_15 : decode cX0_rankUrgencies 15 = .ok (.iload_n 2, 1) := by decide +kernel
theorem dX0_rankUrgencies_16 : decode cX0_rankUrgencies 16 = .ok (.invokevirtual 44, 3) := by decide +kernel
theorem dX0_rankUrgencies_19 : decode cX0_rankUrgencies 19 = .ok (.astore_n 3, 1) := by decide +kernel
theorem dX0_rankUrgencies_20 : decode cX0_rankUrgencies 20 = .ok (.aload_n 3, 1) := by decide +kernel
theorem dX0_rankUrgencies_21 : decode cX0_rankUrgencies 21 = .ok (.ifnull 21, 3) := by decide +kernel
theorem dX0_rankUrgencies_24 : decode cX0_rankUrgencies 24 = .ok (.aload_n 3, 1) := by decide +kernel
theorem dX0_rankUrgencies_25 : decode cX0_rankUrgencies 25 = .ok (.iconst 0, 1) := by decide +kernel
theorem dX0_rankUrgencies_26 : decode cX0_rankUrgencies 26 = .ok (.invokevirtual 77, 3) := by decide +kernel
theorem dX0_rankUrgencies_29 : decode cX0_rankUrgencies 29 = .ok (.ifCond .eq 13, 3) := by decide +kernel
theorem dX0_rankUrgencies_32 : decode cX0_rankUrgencies 32 = .ok (.aload_n 1, 1) := by decide +kernel
theorem dX0_rankUrgencies_33 : decode cX0_rankUrgencies 33 = .ok (.iload_n 2, 1) := by decide +kernel
theorem dX0_rankUrgencies_34 : decode cX0_rankUrgencies 34 = .ok (.aload_n 0, 1) := by decide +kernel
theorem dX0_rankUrgencies_35 : decode cX0_rankUrgencies 35 = .ok (.aload_n 3, 1) := by decide +kernel
theorem dX0_rankUrgencies_36 : decode cX0_rankUrgencies 36 = .ok (.invokevirtual 122, 3) := by decide +kernel
theorem dX0_rankUrgencies_39 : decode cX0_rankUrgencies 39 = .ok (.invokevirtual 126, 3) := by decide +kernel
theorem dX0_rankUrgencies_42 : decode cX0_rankUrgencies 42 = .ok (.iinc 2 1, 3) := by decide +kernel
theorem dX0_rankUrgencies_45 : decode cX0_rankUrgencies 45 = .ok (.goto (-39), 3) := by decide +kernel
theorem dX0_rankUrgencies_48 : decode cX0_rankUrgencies 48 = .ok (.return_, 1) := by decide +kernel
theorem dX0_firstToCheck_0 : decode cX0_firstToCheck 0 = .ok (.iconst 0, 1) := by decide +kernel
theorem dX0_firstToCheck_1 : decode cX0_firstToCheck 1 = .ok (.istore_n 2, 1) := by decide +kernel
theorem dX0_firstToCheck_2 : decode cX0_firstToCheck 2 = .ok (.iload_n 2, 1) := by decide +kernel
theorem dX0_firstToCheck_3 : decode cX0_firstToCheck 3 = .ok (.aload_n 1, 1) := by decide +kernel
theorem dX0_firstToCheck_4 : decode cX0_firstToCheck 4 = .ok (.invokevirtual 80, 3) := by decide +kernel
theorem dX0_firstToCheck_7 : decode cX0_firstToCheck 7 = .ok (.if_icmp .ge 32, 3) := by decide +kernel
theorem dX0_firstToCheck_10 : decode cX0_firstToCheck 10 = .ok (.aload_n 1, 1) := by decide +kernel
theorem dX0_firstToCheck_11 : decode cX0_firstToCheck 11 = .ok (.iload_n 2, 1) := by decide +kernel
theorem dX0_firstToCheck_12 : decode cX0_firstToCheck 12 = .ok (.invokevirtual 91, 3) := by decide +kernel
theorem dX0_firstToCheck_15 : decode cX0_firstToCheck 15 = .ok (.aload_n 0, 1) := by decide +kernel
theorem dX0_firstToCheck_16 : decode cX0_firstToCheck 16 = .ok (.getfield 38, 3) := by decide +kernel
theorem dX0_firstToCheck_19 : decode cX0_firstToCheck 19 = .ok (.if_icmp .eq 14, 3) := by decide +kernel
theorem dX0_firstToCheck_22 : decode cX0_firstToCheck 22 = .ok (.aload_n 0, 1) := by decide +kernel
theorem dX0_firstToCheck_23 : decode cX0_firstToCheck 23 = .ok (.aload_n 1, 1) := by decide +kernel
theorem dX0_firstToCheck_24 : decode cX0_firstToCheck 24 = .ok (.iload_n 2, 1) := by decide +kernel
theorem dX0_firstToCheck_25 : decode cX0_firstToCheck 25 = .ok (.invokevirtual 113, 3) := by decide +kernel
theorem dX0_firstToCheck_28 : decode cX0_firstToCheck 28 = .ok (.ifCond .eq 5, 3) := by decide +kernel
theorem dX0_firstToCheck_31 : decode cX0_firstToCheck 31 = .ok (.iload_n 2, 1) := by decide +kernel
theorem dX0_firstToCheck_32 : decode cX0_firstToCheck 32 = .ok (.ireturn, 1) := by decide +kernel
theorem dX0_firstToCheck_33 : decode cX0_firstToCheck 33 = .ok (.iinc 2 1, 3) := by decide +kernel
theorem dX0_firstToCheck_36 : decode cX0_firstToCheck 36 = .ok (.goto (-34), 3) := by decide +kernel
theorem dX0_firstToCheck_39 : decode cX0_firstToCheck 39 = .ok (.bipush (-5), 2) := by decide +kernel
theorem dX0_firstToCheck_41 : decode cX0_firstToCheck 41 = .ok (.ireturn, 1) := by decide +kernel
theorem dX0_mostUrgentToCheck_0 : decode cX0_mostUrgentToCheck 0 = .ok (.aload_n 0, 1) := by decide +kernel
theorem dX0_mostUrgentToCheck_1 : decode cX0_mostUrgentToCheck 1 = .ok (.getfield 25, 3) := by decide +kernel
theorem dX0_mostUrgentToCheck_4 : decode cX0_mostUrgentToCheck 4 = .ok (.iconst 1, 1) := by decide +kernel
theorem dX0_mostUrgentToCheck_5 : decode cX0_mostUrgentToCheck 5 = .ok (.if_icmp .ge 5, 3) := by decide +kernel
theorem dX0_mostUrgentToCheck_8 : decode cX0_mostUrgentToCheck 8 = .ok (.aconst_null, 1) := by decide +kernel
theorem dX0_mostUrgentToCheck_9 : decode cX0_mostUrgentToCheck 9 = .ok (.areturn, 1) := by decide +kernel
theorem dX0_mostUrgentToCheck_10 : decode cX0_mostUrgentToCheck 10 = .ok (.aconst_null, 1) := by decide +kernel
theorem dX0_mostUrgentToCheck_11 : decode cX0_mostUrgentToCheck 11 = .ok (.astore_n 1, 1) := by decide +kernel
theorem dX0_mostUrgentToCheck_12 : decode cX0_mostUrgentToCheck 12 = .ok (.iconst 0, 1) := by decide +kernel
theorem dX0_mostUrgentToCheck_13 : decode cX0_mostUrgentToCheck 13 = .ok (.istore_n 2, 1) := by decide +kernel
theorem dX0_mostUrgentToCheck_14 : decode cX0_mostUrgentToCheck 14 = .ok (.iconst 0, 1) := by decide +kernel
theorem dX0_mostUrgentToCheck_15 : decode cX0_mostUrgentToCheck 15 = .ok (.istore_n 3, 1) := by decide +kernel
theorem dX0_mostUrgentToCheck_16 : decode cX0_mostUrgentToCheck 16 = .ok (.iload_n 3, 1) := by decide +kernel
theorem dX0_mostUrgentToCheck_17 : decode cX0_mostUrgentToCheck 17 = .ok (.aload_n 0, 1) := by decide +kernel
theorem dX0_mostUrgentToCheck_18 : decode cX0_mostUrgentToCheck 18 = .ok (.getfield 35, 3) := by decide +kernel
theorem dX0_mostUrgentToCheck_21 : decode cX0_mostUrgentToCheck 21 = .ok (.if_icmp .ge 65, 3) := by decide +kernel
theorem dX0_mostUrgentToCheck_24 : decode cX0_mostUrgentToCheck 24 = .ok (.aload_n 0, 1) := by decide +kernel
theorem dX0_mostUrgentToCheck_25 : decode cX0_mostUrgentToCheck 25 = .ok (.iload_n 3, 1) := by decide +kernel
theorem dX0_mostUrgentToCheck_26 : decode cX0_mostUrgentToCheck 26 = .ok (.invokevirtual 44, 3) := by decide +kernel
theorem dX0_mostUrgentToCheck_29 : decode cX0_mostUrgentToCheck 29 = .ok (.astore 4, 2) := by decide +kernel
theorem dX0_mostUrgentToCheck_31 : decode cX0_mostUrgentToCheck 31 = .ok (.aload 4, 2) := by decide +kernel
theorem dX0_mostUrgentToCheck_33 : decode cX0_mostUrgentToCheck 33 = .ok (.ifnull 47, 3) := by decide +kernel
theorem dX0_mostUrgentToCheck_36 : decode cX0_mostUrgentToCheck 36 = .ok (.aload 4, 2) := by decide +kernel
theorem dX0_mostUrgentToCheck_38 : decode cX0_mostUrgentToCheck 38 = .ok (.iconst 0, 1) := by decide +kernel
theorem dX0_mostUrgentToCheck_39 : decode cX0_mostUrgentToCheck 39 = .ok (.invokevirtual 77, 3) := by decide +kernel
theorem dX0_mostUrgentToCheck_42 : decode cX0_mostUrgentToCheck 42 = .ok (.ifCond .eq 38, 3) := by decide +kernel
theorem dX0_mostUrgentToCheck_45 : decode cX0_mostUrgentToCheck 45 = .ok (.aload_n 0, 1) := by decide +kernel
theorem dX0_mostUrgentToCheck_46 : decode cX0_mostUrgentToCheck 46 = .ok (.aload 4, 2) := by decide +kernel
theorem dX0_mostUrgentToCheck_48 : decode cX0_mostUrgentToCheck 48 = .ok (.invokevirtual 129, 3) := by decide +kernel
theorem dX0_mostUrgentToCheck_51 : decode cX0_mostUrgentToCheck 51 = .ok (.bipush (-5), 2) := by decide +kernel
theorem dX0_mostUrgentToCheck_53 : decode cX0_mostUrgentToCheck 53 = .ok (.if_icmp .eq 27, 3) := by decide +kernel
theorem dX0_mostUrgentToCheck_56 : decode cX0_mostUrgentToCheck 56 = .ok (.aload_n 0, 1) := by decide +kernel
theorem dX0_mostUrgentToCheck_57 : decode cX0_mostUrgentToCheck 57 = .ok (.aload 4, 2) := by decide +kernel
theorem dX0_mostUrgentToCheck_59 : decode cX0_mostUrgentToCheck 59 = .ok (.invokevirtual 122, 3) := by decide +kernel
theorem dX0_mostUrgentToCheck_62 : decode cX0_mostUrgentToCheck 62 = .ok (.istore 5, 2) := by decide +kernel
theorem dX0_mostUrgentToCheck_64 : decode cX0_mostUrgentToCheck 64 = .ok (.aload_n 1, 1) := by decide +kernel
theorem dX0_mostUrgentToCheck_65 : decode cX0_mostUrgentToCheck 65 = .ok (.ifnull 9, 3) := by decide +kernel
theorem dX0_mostUrgentToCheck_68 : decode cX0_mostUrgentToCheck 68 = .ok (.iload 5, 2) := by decide +kernel
theorem dX0_mostUrgentToCheck_70 : decode cX0_mostUrgentToCheck 70 = .ok (.iload_n 2, 1) := by decide +kernel
theorem dX0_mostUrgentToCheck_71 : decode cX0_mostUrgentToCheck 71 = .ok (.if_icmp .le 9, 3) := by decide +kernel
theorem dX0_mostUrgentToCheck_74 : decode cX0_mostUrgentToCheck 74 = .ok (.aload 4, 2) := by decide +kernel
theorem dX0_mostUrgentToCheck_76 : decode cX0_mostUrgentToCheck 76 = .ok (.astore_n 1, 1) := by decide +kernel
theorem dX0_mostUrgentToCheck_77 : decode cX0_mostUrgentToCheck 77 = .ok (.iload 5, 2) := by decide +kernel
theorem dX0_mostUrgentToCheck_79 : decode cX0_mostUrgentToCheck 79 = .ok (.istore_n 2, 1) := by decide +kernel
theorem dX0_mostUrgentToCheck_80 : decode cX0_mostUrgentToCheck 80 = .ok (.iinc 3 1, 3) := by decide +kernel
theorem dX0_mostUrgentToCheck_83 : decode cX0_mostUrgentToCheck 83 = .ok (.goto (-67), 3) := by decide +kernel
theorem dX0_mostUrgentToCheck_86 : decode cX0_mostUrgentToCheck 86 = .ok (.aload_n 1, 1) := by decide +kernel
theorem dX0_mostUrgentToCheck_87 : decode cX0_mostUrgentToCheck 87 = .ok (.areturn, 1) := by decide +kernel
theorem dX0_checkToday_0 : decode cX0_checkToday 0 = .ok (.aload_n 1, 1) := by decide +kernel
theorem dX0_checkToday_1 : decode cX0_checkToday 1 = .ok (.iload_n 2, 1) := by decide +kernel
theorem dX0_checkToday_2 : decode cX0_checkToday 2 = .ok (.aload_n 0, 1) := by decide +kernel
theorem dX0_checkToday_3 : decode cX0_checkToday 3 = .ok (.getfield 38, 3) := by decide +kernel
theorem dX0_checkToday_6 : decode cX0_checkToday 6 = .ok (.invokevirtual 132, 3) := by decide +kernel
theorem dX0_checkToday_9 : decode cX0_checkToday 9 = .ok (.aload_n 0, 1) := by decide +kernel
theorem dX0_checkToday_10 : decode cX0_checkToday 10 = .ok (.iconst 1, 1) := by decide +kernel
theorem dX0_checkToday_11 : decode cX0_checkToday 11 = .ok (.invokevirtual 135, 3) := by decide +kernel
theorem dX0_checkToday_14 : decode cX0_checkToday 14 = .ok (.return_, 1) := by decide +kernel
theorem dX0_couldPrint_0 : decode cX0_couldPrint 0 = .ok (.aload_n 1, 1) := by decide +kernel
theorem dX0_couldPrint_1 : decode cX0_couldPrint 1 = .ok (.invokevirtual 139, 3) := by decide +kernel
theorem dX0_couldPrint_4 : decode cX0_couldPrint 4 = .ok (.aload_n 0, 1) := by decide +kernel
theorem dX0_couldPrint_5 : decode cX0_couldPrint 5 = .ok (.iconst 3, 1) := by decide +kernel
theorem dX0_couldPrint_6 : decode cX0_couldPrint 6 = .ok (.invokevirtual 102, 3) := by decide +kernel
theorem dX0_couldPrint_9 : decode cX0_couldPrint 9 = .ok (.if_icmp .lt 19, 3) := by decide +kernel
theorem dX0_couldPrint_12 : decode cX0_couldPrint 12 = .ok (.aload_n 0, 1) := by decide +kernel
theorem dX0_couldPrint_13 : decode cX0_couldPrint 13 = .ok (.aload_n 1, 1) := by decide +kernel
theorem dX0_couldPrint_14 : decode cX0_couldPrint 14 = .ok (.aload_n 0, 1) := by decide +kernel
theorem dX0_couldPrint_15 : decode cX0_couldPrint 15 = .ok (.getfield 38, 3) := by decide +kernel
theorem dX0_couldPrint_18 : decode cX0_couldPrint 18 = .ok (.invokevirtual 109, 3) := by decide +kernel
theorem dX0_couldPrint_21 : decode cX0_couldPrint 21 = .ok (.ifCond .ne 7, 3) := by decide +kernel
theorem dX0_couldPrint_24 : decode cX0_couldPrint 24 = .ok (.iconst 1, 1) := by decide +kernel
theorem dX0_couldPrint_25 : decode cX0_couldPrint 25 = .ok (.goto 4, 3) := by decide +kernel
theorem dX0_couldPrint_28 : decode cX0_couldPrint 28 = .ok (.iconst 0, 1) := by decide +kernel
theorem dX0_couldPrint_29 : decode cX0_couldPrint 29 = .ok (.ireturn, 1) := by decide +kernel
theorem dX0_markPrinted_0 : decode cX0_markPrinted 0 = .ok (.aload_n 0, 1) := by decide +kernel
theorem dX0_markPrinted_1 : decode cX0_markPrinted 1 = .ok (.iload_n 1, 1) := by decide +kernel
theorem dX0_markPrinted_2 : decode cX0_markPrinted 2 = .ok (.invokevirtual 44, 3) := by decide +kernel
theorem dX0_markPrinted_5 : decode cX0_markPrinted 5 = .ok (.astore_n 2, 1) := by decide +kernel
theorem dX0_markPrinted_6 : decode cX0_markPrinted 6 = .ok (.aload_n 2, 1) := by decide +kernel
theorem dX0_markPrinted_7 : decode cX0_markPrinted 7 = .ok (.ifnull 11, 3) := by decide +kernel
theorem dX0_markPrinted_10 : decode cX0_markPrinted 10 = .ok (.aload_n 2, 1) := by decide +kernel
theorem dX0_markPrinted_11 : decode cX0_markPrinted 11 = .ok (.aload_n 0, 1) := by decide +kernel
theorem dX0_markPrinted_12 : decode cX0_markPrinted 12 = .ok (.getfield 38, 3) := by decide +kernel
theorem dX0_markPrinted_15 : decode cX0_markPrinted 15 = .ok (.invokevirtual 142, 3) := by decide +kernel
theorem dX0_markPrinted_18 : decode cX0_markPrinted 18 = .ok (.return_, 1) := by decide +kernel
theorem dX0_takeBackOldDeaths_0 : decode cX0_takeBackOldDeaths 0 = .ok (.iconst 0, 1) := by decide +kernel
theorem dX0_takeBackOldDeaths_1 : decode cX0_takeBackOldDeaths 1 = .ok (.istore_n 1, 1) := by decide +kernel
theorem dX0_takeBackOldDeaths_2 : decode cX0_takeBackOldDeaths 2 = .ok (.iload_n 1, 1) := by decide +kernel
theorem dX0_takeBackOldDeaths_3 : decode cX0_takeBackOldDeaths 3 = .ok (.aload_n 0, 1) := by decide +kernel
theorem dX0_takeBackOldDeaths_4 : decode cX0_takeBackOldDeaths 4 = .ok (.getfield 35, 3) := by decide +kernel
theorem dX0_takeBackOldDeaths_7 : decode cX0_takeBackOldDeaths 7 = .ok (.if_icmp .ge 50, 3) := by decide +kernel
theorem dX0_takeBackOldDeaths_10 : decode cX0_takeBackOldDeaths 10 = .ok (.aload_n 0, 1) := by decide +kernel
theorem dX0_takeBackOldDeaths_11 : decode cX0_takeBackOldDeaths 11 = .ok (.iload_n 1, 1) := by decide +kernel
theorem dX0_takeBackOldDeaths_12 : decode cX0_takeBackOldDeaths 12 = .ok (.invokevirtual 44, 3) := by decide +kernel
theorem dX0_takeBackOldDeaths_15 : decode cX0_takeBackOldDeaths 15 = .ok (.astore_n 2, 1) := by decide +kernel
theorem dX0_takeBackOldDeaths_16 : decode cX0_takeBackOldDeaths 16 = .ok (.aload_n 2, 1) := by decide +kernel
theorem dX0_takeBackOldDeaths_17 : decode cX0_takeBackOldDeaths 17 = .ok (.ifnull 34, 3) := by decide +kernel
theorem dX0_takeBackOldDeaths_20 : decode cX0_takeBackOldDeaths 20 = .ok (.aload_n 2, 1) := by decide +kernel
theorem dX0_takeBackOldDeaths_21 : decode cX0_takeBackOldDeaths 21 = .ok (.iconst 1, 1) := by decide +kernel
theorem dX0_takeBackOldDeaths_22 : decode cX0_takeBackOldDeaths 22 = .ok (.invokevirtual 77, 3) := by decide +kernel
theorem dX0_takeBackOldDeaths_25 : decode cX0_takeBackOldDeaths 25 = .ok (.ifCond .eq 26, 3) := by decide +kernel
theorem dX0_takeBackOldDeaths_28 : decode cX0_takeBackOldDeaths 28 = .ok (.aload_n 0, 1) := by decide +kernel
theorem dX0_takeBackOldDeaths_29 : decode cX0_takeBackOldDeaths 29 = .ok (.getfield 38, 3) := by decide +kernel
theorem dX0_takeBackOldDeaths_32 : decode cX0_takeBackOldDeaths 32 = .ok (.iconst 1, 1) := by decide +kernel
theorem dX0_takeBackOldDeaths_33 : decode cX0_takeBackOldDeaths 33 = .ok (.iadd, 1) := by decide +kernel
theorem dX0_takeBackOldDeaths_34 : decode cX0_takeBackOldDeaths 34 = .ok (.aload_n 2, 1) := by decide +kernel
theorem dX0_takeBackOldDeaths_35 : decode cX0_takeBackOldDeaths 35 = .ok (.invokevirtual 145, 3) := by decide +kernel
theorem dX0_takeBackOldDeaths_38 : decode cX0_takeBackOldDeaths 38 = .ok (.aload_n 0, 1) := by decide +kernel
theorem dX0_takeBackOldDeaths_39 : decode cX0_takeBackOldDeaths 39 = .ok (.iconst 4, 1) := by decide +kernel
theorem dX0_takeBackOldDeaths_40 : decode cX0_takeBackOldDeaths 40 = .ok (.invokevirtual 102, 3) := by decide +kernel
theorem dX0_takeBackOldDeaths_43 : decode cX0_takeBackOldDeaths 43 = .ok (.iadd, 1) := by decide +kernel
theorem dX0_takeBackOldDeaths_44 : decode cX0_takeBackOldDeaths 44 = .ok (.if_icmp .lt 7, 3) := by decide +kernel
theorem dX0_takeBackOldDeaths_47 : decode cX0_takeBackOldDeaths 47 = .ok (.aload_n 2, 1) := by decide +kernel
theorem dX0_takeBackOldDeaths_48 : decode cX0_takeBackOldDeaths 48 = .ok (.invokevirtual 148, 3) := by decide +kernel
theorem dX0_takeBackOldDeaths_51 : decode cX0_takeBackOldDeaths 51 = .ok (.iinc 1 1, 3) := by decide +kernel
theorem dX0_takeBackOldDeaths_54 : decode cX0_takeBackOldDeaths 54 = .ok (.goto (-52), 3) := by decide +kernel
theorem dX0_takeBackOldDeaths_57 : decode cX0_takeBackOldDeaths 57 = .ok (.return_, 1) := by decide +kernel
theorem dX0_beginNextDay_0 : decode cX0_beginNextDay 0 = .ok (.aload_n 0, 1) := by decide +kernel
theorem dX0_beginNextDay_1 : decode cX0_beginNextDay 1 = .ok (.dup, 1) := by decide +kernel
theorem dX0_beginNextDay_2 : decode cX0_beginNextDay 2 = .ok (.getfield 38, 3) := by decide +kernel
theorem dX0_beginNextDay_5 : decode cX0_beginNextDay 5 = .ok (.iconst 1, 1) := by decide +kernel
theorem dX0_beginNextDay_6 : decode cX0_beginNextDay 6 = .ok (.iadd, 1) := by decide +kernel
theorem dX0_beginNextDay_7 : decode cX0_beginNextDay 7 = .ok (.putfield 38, 3) := by decide +kernel
theorem dX0_beginNextDay_10 : decode cX0_beginNextDay 10 = .ok (.aload_n 0, 1) := by decide +kernel
theorem dX0_beginNextDay_11 : decode cX0_beginNextDay 11 = .ok (.aload_n 0, 1) := by decide +kernel
theorem dX0_beginNextDay_12 : decode cX0_beginNextDay 12 = .ok (.iconst 0, 1) := by decide +kernel
theorem dX0_beginNextDay_13 : decode cX0_beginNextDay 13 = .ok (.invokevirtual 102, 3) := by decide +kernel
theorem dX0_beginNextDay_16 : decode cX0_beginNextDay 16 = .ok (.putfield 25, 3) := by decide +kernel
theorem dX0_beginNextDay_19 : decode cX0_beginNextDay 19 = .ok (.return_, 1) := by decide +kernel
theorem dX1_init_0 : decode cX1_init 0 = .ok (.aload_n 0, 1) := by decide +kernel
theorem dX1_init_1 : decode cX1_init 1 = .ok (.invokespecial 3, 3) := by decide +kernel
theorem dX1_init_4 : decode cX1_init 4 = .ok (.aload_n 0, 1) := by decide +kernel
theorem dX1_init_5 : decode cX1_init 5 = .ok (.iconst 4, 1) := by decide +kernel
theorem dX1_init_6 : decode cX1_init 6 = .ok (.anewarray 9, 3) := by decide +kernel
theorem dX1_init_9 : decode cX1_init 9 = .ok (.putfield 11, 3) := by decide +kernel
theorem dX1_init_12 : decode cX1_init 12 = .ok (.iconst 0, 1) := by decide +kernel
theorem dX1_init_13 : decode cX1_init 13 = .ok (.istore_n 1, 1) := by decide +kernel
theorem dX1_init_14 : decode cX1_init 14 = .ok (.iload_n 1, 1) := by decide +kernel
theorem dX1_init_15 : decode cX1_init 15 = .ok (.iconst 4, 1) := by decide +kernel
theorem dX1_init_16 : decode cX1_init 16 = .ok (.if_icmp .ge 22, 3) := by decide +kernel
theorem dX1_init_19 : decode cX1_init 19 = .ok (.aload_n 0, 1) := by decide +kernel
theorem dX1_init_20 : decode cX1_init 20 = .ok (.getfield 11, 3) := by decide +kernel
theorem dX1_init_23 : decode cX1_init 23 = .ok (.iload_n 1, 1) := by decide +kernel
theorem dX1_init_24 : decode cX1_init 24 = .ok (.new 9, 3) := by decide +kernel
theorem dX1_init_27 : decode cX1_init 27 = .ok (.dup, 1) := by decide +kernel
theorem dX1_init_28 : decode cX1_init 28 = .ok (.invokespecial 17, 3) := by decide +kernel
theorem dX1_init_31 : decode cX1_init 31 = .ok (.aastore, 1) := by decide +kernel
theorem dX1_init_32 : decode cX1_init 32 = .ok (.iinc 1 1, 3) := by decide +kernel
theorem dX1_init_35 : decode cX1_init 35 = .ok (.goto (-21), 3) := by decide +kernel
theorem dX1_init_38 : decode cX1_init 38 = .ok (.return_, 1) := by decide +kernel
theorem dX1_size_0 : decode cX1_size 0 = .ok (.aload_n 0, 1) := by decide +kernel
theorem dX1_size_1 : decode cX1_size 1 = .ok (.getfield 18, 3) := by decide +kernel
theorem dX1_size_4 : decode cX1_size 4 = .ok (.ireturn, 1) := by decide +kernel
theorem dX1_remember_0 : decode cX1_remember 0 = .ok (.aload_n 0, 1) := by decide +kernel
theorem dX1_remember_1 : decode cX1_remember 1 = .ok (.getfield 18, 3) := by decide +kernel
theorem dX1_remember_4 : decode cX1_remember 4 = .ok (.iconst 4, 1) := by decide +kernel
theorem dX1_remember_5 : decode cX1_remember 5 = .ok (.if_icmp .lt 20, 3) := by decide +kernel
theorem dX1_remember_8 : decode cX1_remember 8 = .ok (.aload_n 0, 1) := by decide +kernel
theorem dX1_remember_9 : decode cX1_remember 9 = .ok (.aload_n 0, 1) := by decide +kernel
theorem dX1_remember_10 : decode cX1_remember 10 = .ok (.getfield 22, 3) := by decide +kernel
theorem dX1_remember_13 : decode cX1_remember 13 = .ok (.iconst 1, 1) := by decide +kernel
theorem dX1_remember_14 : decode cX1_remember 14 = .ok (.iadd, 1) := by decide +kernel
theorem dX1_remember_15 : decode cX1_remember 15 = .ok (.iconst 4, 1) := by decide +kernel
theorem dX1_remember_16 : decode cX1_remember 16 = .ok (.irem, 1) := by decide +kernel
theorem dX1_remember_17 : decode cX1_remember 17 = .ok (.putfield 22, 3) := by decide +kernel
theorem dX1_remember_20 : decode cX1_remember 20 = .ok (.aload_n 0, 1) := by decide +kernel
theorem dX1_remember_21 : decode cX1_remember 21 = .ok (.iconst 3, 1) := by decide +kernel
theorem dX1_remember_22 : decode cX1_remember 22 = .ok (.putfield 18, 3) := by decide +kernel
theorem dX1_remember_25 : decode cX1_remember 25 = .ok (.aload_n 0, 1) := by decide +kernel
theorem dX1_remember_26 : decode cX1_remember 26 = .ok (.aload_n 0, 1) := by decide +kernel
theorem dX1_remember_27 : decode cX1_remember 27 = .ok (.getfield 18, 3) := by decide +kernel
theorem dX1_remember_30 : decode cX1_remember 30 = .ok (.invokevirtual 25, 3) := by decide +kernel
theorem dX1_remember_33 : decode cX1_remember 33 = .ok (.astore_n 2, 1) := by decide +kernel
theorem dX1_remember_34 : decode cX1_remember 34 = .ok (.aload_n 2, 1) := by decide +kernel
theorem dX1_remember_35 : decode cX1_remember 35 = .ok (.ifnull 18, 3) := by decide +kernel
theorem dX1_remember_38 : decode cX1_remember 38 = .ok (.aload_n 2, 1) := by decide +kernel
theorem dX1_remember_39 : decode cX1_remember 39 = .ok (.aload_n 1, 1) := by decide +kernel
theorem dX1_remember_40 : decode cX1_remember 40 = .ok (.invokevirtual 29, 3) := by decide +kernel
theorem dX1_remember_43 : decode cX1_remember 43 = .ok (.aload_n 0, 1) := by decide +kernel
theorem dX1_remember_44 : decode cX1_remember 44 = .ok (.dup, 1) := by decide +kernel
theorem dX1_remember_45 : decode cX1_remember 45 = .ok (.getfield 18, 3) := by decide +kernel
theorem dX1_remember_48 : decode cX1_remember 48 = .ok (.iconst 1, 1) := by decide +kernel
theorem dX1_remember_49 : decode cX1_remember 49 = .ok (.iadd, 1) := by decide +kernel
theorem dX1_remember_50 : decode cX1_remember 50 = .ok (.putfield 18, 3) := by decide +kernel
theorem dX1_remember_53 : decode cX1_remember 53 = .ok (.return_, 1) := by decide +kernel
theorem dX1_takeLatest_0 : decode cX1_takeLatest 0 = .ok (.aload_n 0, 1) := by decide +kernel
theorem dX1_takeLatest_1 : decode cX1_takeLatest 1 = .ok (.aload_n 0, 1) := by decide +kernel
theorem dX1_takeLatest_2 : decode cX1_takeLatest 2 = .ok (.getfield 18, 3) := by decide +kernel
theorem dX1_takeLatest_5 : decode cX1_takeLatest 5 = .ok (.iconst 1, 1) := by decide +kernel
theorem dX1_takeLatest_6 : decode cX1_takeLatest 6 = .ok (.isub, 1) := by decide +kernel
theorem dX1_takeLatest_7 : decode cX1_takeLatest 7 = .ok (.invokevirtual 25, 3) := by decide +kernel
theorem dX1_takeLatest_10 : decode cX1_takeLatest 10 = .ok (.astore_n 2, 1) := by decide +kernel
theorem dX1_takeLatest_11 : decode cX1_takeLatest 11 = .ok (.aload_n 2, 1) := by decide +kernel
theorem dX1_takeLatest_12 : decode cX1_takeLatest 12 = .ok (.ifnull 18, 3) := by decide +kernel
theorem dX1_takeLatest_15 : decode cX1_takeLatest 15 = .ok (.aload_n 1, 1) := by decide +kernel
theorem dX1_takeLatest_16 : decode cX1_takeLatest 16 = .ok (.aload_n 2, 1) := by decide +kernel
theorem dX1_takeLatest_17 : decode cX1_takeLatest 17 = .ok (.invokevirtual 29, 3) := by decide +kernel
theorem dX1_takeLatest_20 : decode cX1_takeLatest 20 = .ok (.aload_n 0, 1) := by decide +kernel
theorem dX1_takeLatest_21 : decode cX1_takeLatest 21 = .ok (.dup, 1) := by decide +kernel
theorem dX1_takeLatest_22 : decode cX1_takeLatest 22 = .ok (.getfield 18, 3) := by decide +kernel
theorem dX1_takeLatest_25 : decode cX1_takeLatest 25 = .ok (.iconst 1, 1) := by decide +kernel
theorem dX1_takeLatest_26 : decode cX1_takeLatest 26 = .ok (.isub, 1) := by decide +kernel
theorem dX1_takeLatest_27 : decode cX1_takeLatest 27 = .ok (.putfield 18, 3) := by decide +kernel
theorem dX1_takeLatest_30 : decode cX1_takeLatest 30 = .ok (.return_, 1) := by decide +kernel
theorem dX1_stateAt_0 : decode cX1_stateAt 0 = .ok (.aload_n 0, 1) := by decide +kernel
theorem dX1_stateAt_1 : decode cX1_stateAt 1 = .ok (.getfield 22, 3) := by decide +kernel
theorem dX1_stateAt_4 : decode cX1_stateAt 4 = .ok (.iload_n 1, 1) := by decide +kernel
theorem dX1_stateAt_5 : decode cX1_stateAt 5 = .ok (.iadd, 1) := by decide +kernel
theorem dX1_stateAt_6 : decode cX1_stateAt 6 = .ok (.istore_n 2, 1) := by decide +kernel
theorem dX1_stateAt_7 : decode cX1_stateAt 7 = .ok (.iload_n 1, 1) := by decide +kernel
theorem dX1_stateAt_8 : decode cX1_stateAt 8 = .ok (.ifCond .lt 7, 3) := by decide +kernel
theorem dX1_stateAt_11 : decode cX1_stateAt 11 = .ok (.iload_n 2, 1) := by decide +kernel
theorem dX1_stateAt_12 : decode cX1_stateAt 12 = .ok (.ifCond .ge 5, 3) := by decide +kernel
theorem dX1_stateAt_15 : decode cX1_stateAt 15 = .ok (.aconst_null, 1) := by decide +kernel
theorem dX1_stateAt_16 : decode cX1_stateAt 16 = .ok (.areturn, 1) := by decide +kernel
theorem dX1_stateAt_17 : decode cX1_stateAt 17 = .ok (.aload_n 0, 1) := by decide +kernel
theorem dX1_stateAt_18 : decode cX1_stateAt 18 = .ok (.getfield 11, 3) := by decide +kernel
theorem dX1_stateAt_21 : decode cX1_stateAt 21 = .ok (.iload_n 2, 1) := by decide +kernel
theorem dX1_stateAt_22 : decode cX1_stateAt 22 = .ok (.iconst 4, 1) := by decide +kernel
theorem dX1_stateAt_23 : decode cX1_stateAt 23 = .ok (.irem, 1) := by decide +kernel
theorem dX1_stateAt_24 : decode cX1_stateAt 24 = .ok (.aaload, 1) := by decide +kernel
theorem dX1_stateAt_25 : decode cX1_stateAt 25 = .ok (.areturn, 1) := by decide +kernel
theorem dX2_init_0 : decode cX2_init 0 = .ok (.aload_n 0, 1) := by decide +kernel
theorem dX2_init_1 : decode cX2_init 1 = .ok (.invokespecial 3, 3) := by decide +kernel
theorem dX2_init_4 : decode cX2_init 4 = .ok (.aload_n 0, 1) := by decide +kernel
theorem dX2_init_5 : decode cX2_init 5 = .ok (.bipush (-5), 2) := by decide +kernel
theorem dX2_init_7 : decode cX2_init 7 = .ok (.putfield 9, 3) := by decide +kernel
theorem dX2_init_10 : decode cX2_init 10 = .ok (.aload_n 0, 1) := by decide +kernel
theorem dX2_init_11 : decode cX2_init 11 = .ok (.bipush (-5), 2) := by decide +kernel
theorem dX2_init_13 : decode cX2_init 13 = .ok (.putfield 15, 3) := by decide +kernel
theorem dX2_init_16 : decode cX2_init 16 = .ok (.aload_n 0, 1) := by decide +kernel
theorem dX2_init_17 : decode cX2_init 17 = .ok (.bipush (-5), 2) := by decide +kernel
theorem dX2_init_19 : decode cX2_init 19 = .ok (.putfield 18, 3) := by decide +kernel
theorem dX2_init_22 : decode cX2_init 22 = .ok (.aload_n 0, 1) := by decide +kernel
theorem dX2_init_23 : decode cX2_init 23 = .ok (.bipush 8, 2) := by decide +kernel
theorem dX2_init_25 : decode cX2_init 25 = .ok (.newarray .int, 2) := by decide +kernel
theorem dX2_init_27 : decode cX2_init 27 = .ok (.putfield 21, 3) := by decide +kernel
theorem dX2_init_30 : decode cX2_init 30 = .ok (.aload_n 0, 1) := by decide +kernel
theorem dX2_init_31 : decode cX2_init 31 = .ok (.bipush 8, 2) := by decide +kernel
theorem dX2_init_33 : decode cX2_init 33 = .ok (.newarray .int, 2) := by decide +kernel
theorem dX2_init_35 : decode cX2_init 35 = .ok (.putfield 25, 3) := by decide +kernel
theorem dX2_init_38 : decode cX2_init 38 = .ok (.aload_n 0, 1) := by decide +kernel
theorem dX2_init_39 : decode cX2_init 39 = .ok (.bipush 8, 2) := by decide +kernel
theorem dX2_init_41 : decode cX2_init 41 = .ok (.newarray .int, 2) := by decide +kernel
theorem dX2_init_43 : decode cX2_init 43 = .ok (.putfield 28, 3) := by decide +kernel
theorem dX2_init_46 : decode cX2_init 46 = .ok (.return_, 1) := by decide +kernel
theorem dX2_begin_0 : decode cX2_begin 0 = .ok (.aload_n 0, 1) := by decide +kernel
theorem dX2_begin_1 : decode cX2_begin 1 = .ok (.iload_n 1, 1) := by decide +kernel
theorem dX2_begin_2 : decode cX2_begin 2 = .ok (.putfield 31, 3) := by decide +kernel
theorem dX2_begin_5 : decode cX2_begin 5 = .ok (.aload_n 0, 1) := by decide +kernel
theorem dX2_begin_6 : decode cX2_begin 6 = .ok (.iload_n 2, 1) := by decide +kernel
theorem dX2_begin_7 : decode cX2_begin 7 = .ok (.putfield 34, 3) := by decide +kernel
theorem dX2_begin_10 : decode cX2_begin 10 = .ok (.aload_n 0, 1) := by decide +kernel
theorem dX2_begin_11 : decode cX2_begin 11 = .ok (.bipush (-5), 2) := by decide +kernel
theorem dX2_begin_13 : decode cX2_begin 13 = .ok (.putfield 18, 3) := by decide +kernel
theorem dX2_begin_16 : decode cX2_begin 16 = .ok (.aload_n 0, 1) := by decide +kernel
theorem dX2_begin_17 : decode cX2_begin 17 = .ok (.iconst 0, 1) := by decide +kernel
theorem dX2_begin_18 : decode cX2_begin 18 = .ok (.putfield 37, 3) := by decide +kernel
theorem dX2_begin_21 : decode cX2_begin 21 = .ok (.aload_n 0, 1) := by decide +kernel
theorem dX2_begin_22 : decode cX2_begin 22 = .ok (.invokevirtual 40, 3) := by decide +kernel
theorem dX2_begin_25 : decode cX2_begin 25 = .ok (.return_, 1) := by decide +kernel
theorem dX2_copyLife_0 : decode cX2_copyLife 0 = .ok (.aload_n 0, 1) := by decide +kernel
theorem dX2_copyLife_1 : decode cX2_copyLife 1 = .ok (.aload_n 1, 1) := by decide +kernel
theorem dX2_copyLife_2 : decode cX2_copyLife 2 = .ok (.getfield 31, 3) := by decide +kernel
theorem dX2_copyLife_5 : decode cX2_copyLife 5 = .ok (.putfield 31, 3) := by decide +kernel
theorem dX2_copyLife_8 : decode cX2_copyLife 8 = .ok (.aload_n 0, 1) := by decide +kernel
theorem dX2_copyLife_9 : decode cX2_copyLife 9 = .ok (.aload_n 1, 1) := by decide +kernel
theorem dX2_copyLife_10 : decode cX2_copyLife 10 = .ok (.getfield 34, 3) := by decide +kernel
theorem dX2_copyLife_13 : decode cX2_copyLife 13 = .ok (.putfield 34, 3) := by decide +kernel
theorem dX2_copyLife_16 : decode cX2_copyLife 16 = .ok (.aload_n 0, 1) := by decide +kernel
theorem dX2_copyLife_17 : decode cX2_copyLife 17 = .ok (.aload_n 1, 1) := by decide +kernel
theorem dX2_copyLife_18 : decode cX2_copyLife 18 = .ok (.getfield 43, 3) := by decide +kernel
theorem dX2_copyLife_21 : decode cX2_copyLife 21 = .ok (.putfield 43, 3) := by decide +kernel
theorem dX2_copyLife_24 : decode cX2_copyLife 24 = .ok (.aload_n 0, 1) := by decide +kernel
theorem dX2_copyLife_25 : decode cX2_copyLife 25 = .ok (.aload_n 1, 1) := by decide +kernel
theorem dX2_copyLife_26 : decode cX2_copyLife 26 = .ok (.getfield 9, 3) := by decide +kernel
theorem dX2_copyLife_29 : decode cX2_copyLife 29 = .ok (.putfield 9, 3) := by decide +kernel
theorem dX2_copyLife_32 : decode cX2_copyLife 32 = .ok (.aload_n 0, 1) := by decide +kernel
theorem dX2_copyLife_33 : decode cX2_copyLife 33 = .ok (.aload_n 1, 1) := by decide +kernel
theorem dX2_copyLife_34 : decode cX2_copyLife 34 = .ok (.getfield 15, 3) := by decide +kernel
theorem dX2_copyLife_37 : decode cX2_copyLife 37 = .ok (.putfield 15, 3) := by decide +kernel
theorem dX2_copyLife_40 : decode cX2_copyLife 40 = .ok (.aload_n 0, 1) := by decide +kernel
theorem dX2_copyLife_41 : decode cX2_copyLife 41 = .ok (.aload_n 1, 1) := by decide +kernel
theorem dX2_copyLife_42 : decode cX2_copyLife 42 = .ok (.getfield 18, 3) := by decide +kernel
theorem dX2_copyLife_45 : decode cX2_copyLife 45 = .ok (.putfield 18, 3) := by decide +kernel
theorem dX2_copyLife_48 : decode cX2_copyLife 48 = .ok (.aload_n 0, 1) := by decide +kernel
theorem dX2_copyLife_49 : decode cX2_copyLife 49 = .ok (.aload_n 1, 1) := by decide +kernel
theorem dX2_copyLife_50 : decode cX2_copyLife 50 = .ok (.getfield 37, 3) := by decide +kernel
theorem dX2_copyLife_53 : decode cX2_copyLife 53 = .ok (.putfield 37, 3) := by decide +kernel
theorem dX2_copyLife_56 : decode cX2_copyLife 56 = .ok (.aload_n 1, 1) := by decide +kernel
theorem dX2_copyLife_57 : decode cX2_copyLife 57 = .ok (.getfield 21, 3) := by decide +kernel
theorem dX2_copyLife_60 : decode cX2_copyLife 60 = .ok (.iconst 0, 1) := by decide +kernel
theorem dX2_copyLife_61 : decode cX2_copyLife 61 = .ok (.aload_n 0, 1) := by decide +kernel
theorem dX2_copyLife_62 : decode cX2_copyLife 62 = .ok (.getfield 21, 3) := by decide +kernel
theorem dX2_copyLife_65 : decode cX2_copyLife 65 = .ok (.iconst 0, 1) := by decide +kernel
theorem dX2_copyLife_66 : decode cX2_copyLife 66 = .ok (.bipush 8, 2) := by decide +kernel
theorem dX2_copyLife_68 : decode cX2_copyLife 68 = .ok (.invokestatic 46, 3) := by decide +kernel
theorem dX2_copyLife_71 : decode cX2_copyLife 71 = .ok (.aload_n 1, 1) := by decide +kernel
theorem dX2_copyLife_72 : decode cX2_copyLife 72 = .ok (.getfield 25, 3) := by decide +kernel
theorem dX2_copyLife_75 : decode cX2_copyLife 75 = .ok (.iconst 0, 1) := by decide +kernel
theorem dX2_copyLife_76 : decode cX2_copyLife 76 = .ok (.aload_n 0, 1) := by decide +kernel
theorem dX2_copyLife_77 : decode cX2_copyLife 77 = .ok (.getfield 25, 3) := by decide +kernel
theorem dX2_copyLife_80 : decode cX2_copyLife 80 = .ok (.iconst 0, 1) := by decide +kernel
theorem dX2_copyLife_81 : decode cX2_copyLife 81 = .ok (.bipush 8, 2) := by decide +kernel
theorem dX2_copyLife_83 : decode cX2_copyLife 83 = .ok (.invokestatic 46, 3) := by decide +kernel
theorem dX2_copyLife_86 : decode cX2_copyLife 86 = .ok (.aload_n 1, 1) := by decide +kernel
theorem dX2_copyLife_87 : decode cX2_copyLife 87 = .ok (.getfield 28, 3) := by decide +kernel
theorem dX2_copyLife_90 : decode cX2_copyLife 90 = .ok (.iconst 0, 1) := by decide +kernel
theorem dX2_copyLife_91 : decode cX2_copyLife 91 = .ok (.aload_n 0, 1) := by decide +kernel
theorem dX2_copyLife_92 : decode cX2_copyLife 92 = .ok (.getfield 28, 3) := by decide +kernel
theorem dX2_copyLife_95 : decode cX2_copyLife 95 = .ok (.iconst 0, 1) := by decide +kernel
theorem dX2_copyLife_96 : decode cX2_copyLife 96 = .ok (.bipush 8, 2) := by decide +kernel
theorem dX2_copyLife_98 : decode cX2_copyLife 98 = .ok (.invokestatic 46, 3) := by decide +kernel
theorem dX2_copyLife_101 : decode cX2_copyLife 101 = .ok (.return_, 1) := by decide +kernel
theorem dX2_age_0 : decode cX2_age 0 = .ok (.aload_n 0, 1) := by decide +kernel
theorem dX2_age_1 : decode cX2_age 1 = .ok (.getfield 31, 3) := by decide +kernel
theorem dX2_age_4 : decode cX2_age 4 = .ok (.ireturn, 1) := by decide +kernel
theorem dX2_rank_0 : decode cX2_rank 0 = .ok (.aload_n 0, 1) := by decide +kernel
theorem dX2_rank_1 : decode cX2_rank 1 = .ok (.getfield 34, 3) := by decide +kernel
theorem dX2_rank_4 : decode cX2_rank 4 = .ok (.ireturn, 1) := by decide +kernel
theorem dX2_state_0 : decode cX2_state 0 = .ok (.aload_n 0, 1) := by decide +kernel
theorem dX2_state_1 : decode cX2_state 1 = .ok (.getfield 43, 3) := by decide +kernel
theorem dX2_state_4 : decode cX2_state 4 = .ok (.ireturn, 1) := by decide +kernel
theorem dX2_isIn_0 : decode cX2_isIn 0 = .ok (.aload_n 0, 1) := by decide +kernel
theorem dX2_isIn_1 : decode cX2_isIn 1 = .ok (.getfield 43, 3) := by decide +kernel
theorem dX2_isIn_4 : decode cX2_isIn 4 = .ok (.iload_n 1, 1) := by decide +kernel
theorem dX2_isIn_5 : decode cX2_isIn 5 = .ok (.if_icmp .ne 7, 3) := by decide +kernel
theorem dX2_isIn_8 : decode cX2_isIn 8 = .ok (.iconst 1, 1) := by decide +kernel
theorem dX2_isIn_9 : decode cX2_isIn 9 = .ok (.goto 4, 3) := by decide +kernel
theorem dX2_isIn_12 : decode cX2_isIn 12 = .ok (.iconst 0, 1) := by decide +kernel
theorem dX2_isIn_13 : decode cX2_isIn 13 = .ok (.ireturn, 1) := by decide +kernel
theorem dX2_teller_0 : decode cX2_teller 0 = .ok (.aload_n 0, 1) := by decide +kernel
theorem dX2_teller_1 : decode cX2_teller 1 = .ok (.getfield 9, 3) := by decide +kernel
theorem dX2_teller_4 : decode cX2_teller 4 = .ok (.ireturn, 1) := by decide +kernel
theorem dX2_deathDay_0 : decode cX2_deathDay 0 = .ok (.aload_n 0, 1) := by decide +kernel
theorem dX2_deathDay_1 : decode cX2_deathDay 1 = .ok (.getfield 15, 3) := by decide +kernel
theorem dX2_deathDay_4 : decode cX2_deathDay 4 = .ok (.ireturn, 1) := by decide +kernel
theorem dX2_printDay_0 : decode cX2_printDay 0 = .ok (.aload_n 0, 1) := by decide +kernel
theorem dX2_printDay_1 : decode cX2_printDay 1 = .ok (.getfield 18, 3) := by decide +kernel
theorem dX2_printDay_4 : decode cX2_printDay 4 = .ok (.ireturn, 1) := by decide +kernel
theorem dX2_size_0 : decode cX2_size 0 = .ok (.aload_n 0, 1) := by decide +kernel
theorem dX2_size_1 : decode cX2_size 1 = .ok (.getfield 37, 3) := by decide +kernel
theorem dX2_size_4 : decode cX2_size 4 = .ok (.ireturn, 1) := by decide +kernel
theorem dX2_tellDead_0 : decode cX2_tellDead 0 = .ok (.aload_n 0, 1) := by decide +kernel
theorem dX2_tellDead_1 : decode cX2_tellDead 1 = .ok (.iconst 1, 1) := by decide +kernel
theorem dX2_tellDead_2 : decode cX2_tellDead 2 = .ok (.putfield 43, 3) := by decide +kernel
theorem dX2_tellDead_5 : decode cX2_tellDead 5 = .ok (.aload_n 0, 1) := by decide +kernel
theorem dX2_tellDead_6 : decode cX2_tellDead 6 = .ok (.iload_n 1, 1) := by decide +kernel
theorem dX2_tellDead_7 : decode cX2_tellDead 7 = .ok (.putfield 9, 3) := by decide +kernel
theorem dX2_tellDead_10 : decode cX2_tellDead 10 = .ok (.aload_n 0, 1) := by decide +kernel
theorem dX2_tellDead_11 : decode cX2_tellDead 11 = .ok (.iload_n 2, 1) := by decide +kernel
theorem dX2_tellDead_12 : decode cX2_tellDead 12 = .ok (.putfield 15, 3) := by decide +kernel
theorem dX2_tellDead_15 : decode cX2_tellDead 15 = .ok (.return_, 1) := by decide +kernel
theorem dX2_confirmDeath_0 : decode cX2_confirmDeath 0 = .ok (.aload_n 0, 1) := by decide +kernel
theorem dX2_confirmDeath_1 : decode cX2_confirmDeath 1 = .ok (.iconst 2, 1) := by decide +kernel
theorem dX2_confirmDeath_2 : decode cX2_confirmDeath 2 = .ok (.putfield 43, 3) := by decide +kernel
theorem dX2_confirmDeath_5 : decode cX2_confirmDeath 5 = .ok (.aload_n 0, 1) := by decide +kernel
theorem dX2_confirmDeath_6 : decode cX2_confirmDeath 6 = .ok (.bipush (-5), 2) := by decide +kernel
theorem dX2_confirmDeath_8 : decode cX2_confirmDeath 8 = .ok (.putfield 9, 3) := by decide +kernel
theorem dX2_confirmDeath_11 : decode cX2_confirmDeath 11 = .ok (.aload_n 0, 1) := by decide +kernel
theorem dX2_confirmDeath_12 : decode cX2_confirmDeath 12 = .ok (.iload_n 1, 1) := by decide +kernel
theorem dX2_confirmDeath_13 : decode cX2_confirmDeath 13 = .ok (.putfield 15, 3) := by decide +kernel
theorem dX2_confirmDeath_16 : decode cX2_confirmDeath 16 = .ok (.return_, 1) := by decide +kernel
theorem dX2_takeBackDeath_0 : decode cX2_takeBackDeath 0 = .ok (.aload_n 0, 1) := by decide +kernel
theorem dX2_takeBackDeath_1 : decode cX2_takeBackDeath 1 = .ok (.iconst 0, 1) := by decide +kernel
theorem dX2_takeBackDeath_2 : decode cX2_takeBackDeath 2 = .ok (.putfield 43, 3) := by decide +kernel
theorem dX2_takeBackDeath_5 : decode cX2_takeBackDeath 5 = .ok (.aload_n 0, 1) := by decide +kernel
theorem dX2_takeBackDeath_6 : decode cX2_takeBackDeath 6 = .ok (.bipush (-5), 2) := by decide +kernel
theorem dX2_takeBackDeath_8 : decode cX2_takeBackDeath 8 = .ok (.putfield 9, 3) := by decide +kernel
theorem dX2_takeBackDeath_11 : decode cX2_takeBackDeath 11 = .ok (.aload_n 0, 1) := by decide +kernel
theorem dX2_takeBackDeath_12 : decode cX2_takeBackDeath 12 = .ok (.bipush (-5), 2) := by decide +kernel
theorem dX2_takeBackDeath_14 : decode cX2_takeBackDeath 14 = .ok (.putfield 15, 3) := by decide +kernel
theorem dX2_takeBackDeath_17 : decode cX2_takeBackDeath 17 = .ok (.return_, 1) := by decide +kernel
theorem dX2_becomePrinted_0 : decode cX2_becomePrinted 0 = .ok (.aload_n 0, 1) := by decide +kernel
theorem dX2_becomePrinted_1 : decode cX2_becomePrinted 1 = .ok (.iconst 3, 1) := by decide +kernel
theorem dX2_becomePrinted_2 : decode cX2_becomePrinted 2 = .ok (.putfield 43, 3) := by decide +kernel
theorem dX2_becomePrinted_5 : decode cX2_becomePrinted 5 = .ok (.aload_n 0, 1) := by decide +kernel
theorem dX2_becomePrinted_6 : decode cX2_becomePrinted 6 = .ok (.iload_n 1, 1) := by decide +kernel
theorem dX2_becomePrinted_7 : decode cX2_becomePrinted 7 = .ok (.putfield 18, 3) := by decide +kernel
theorem dX2_becomePrinted_10 : decode cX2_becomePrinted 10 = .ok (.return_, 1) := by decide +kernel
theorem dX2_hasFact_0 : decode cX2_hasFact 0 = .ok (.iload_n 1, 1) := by decide +kernel
theorem dX2_hasFact_1 : decode cX2_hasFact 1 = .ok (.ifCond .lt 21, 3) := by decide +kernel
theorem dX2_hasFact_4 : decode cX2_hasFact 4 = .ok (.iload_n 1, 1) := by decide +kernel
theorem dX2_hasFact_5 : decode cX2_hasFact 5 = .ok (.aload_n 0, 1) := by decide +kernel
theorem dX2_hasFact_6 : decode cX2_hasFact 6 = .ok (.getfield 37, 3) := by decide +kernel
theorem dX2_hasFact_9 : decode cX2_hasFact 9 = .ok (.if_icmp .ge 13, 3) := by decide +kernel
theorem dX2_hasFact_12 : decode cX2_hasFact 12 = .ok (.iload_n 1, 1) := by decide +kernel
theorem dX2_hasFact_13 : decode cX2_hasFact 13 = .ok (.bipush 8, 2) := by decide +kernel
theorem dX2_hasFact_15 : decode cX2_hasFact 15 = .ok (.if_icmp .ge 7, 3) := by decide +kernel
theorem dX2_hasFact_18 : decode cX2_hasFact 18 = .ok (.iconst 1, 1) := by decide +kernel
theorem dX2_hasFact_19 : decode cX2_hasFact 19 = .ok (.goto 4, 3) := by decide +kernel
theorem dX2_hasFact_22 : decode cX2_hasFact 22 = .ok (.iconst 0, 1) := by decide +kernel
theorem dX2_hasFact_23 : decode cX2_hasFact 23 = .ok (.ireturn, 1) := by decide +kernel
theorem dX2_sourceOf_0 : decode cX2_sourceOf 0 = .ok (.aload_n 0, 1) := by decide +kernel
theorem dX2_sourceOf_1 : decode cX2_sourceOf 1 = .ok (.iload_n 1, 1) := by decide +kernel
theorem dX2_sourceOf_2 : decode cX2_sourceOf 2 = .ok (.invokevirtual 52, 3) := by decide +kernel
theorem dX2_sourceOf_5 : decode cX2_sourceOf 5 = .ok (.ifCond .eq 12, 3) := by decide +kernel
theorem dX2_sourceOf_8 : decode cX2_sourceOf 8 = .ok (.aload_n 0, 1) := by decide +kernel
theorem dX2_sourceOf_9 : decode cX2_sourceOf 9 = .ok (.getfield 21, 3) := by decide +kernel
theorem dX2_sourceOf_12 : decode cX2_sourceOf 12 = .ok (.iload_n 1, 1) := by decide +kernel
theorem dX2_sourceOf_13 : decode cX2_sourceOf 13 = .ok (.iaload, 1) := by decide +kernel
theorem dX2_sourceOf_14 : decode cX2_sourceOf 14 = .ok (.goto 5, 3) := by decide +kernel
theorem dX2_sourceOf_17 : decode cX2_sourceOf 17 = .ok (.bipush (-5), 2) := by decide +kernel
theorem dX2_sourceOf_19 : decode cX2_sourceOf 19 = .ok (.ireturn, 1) := by decide +kernel
theorem dX2_linesOf_0 : decode cX2_linesOf 0 = .ok (.aload_n 0, 1) := by decide +kernel
theorem dX2_linesOf_1 : decode cX2_linesOf 1 = .ok (.iload_n 1, 1) := by decide +kernel
theorem dX2_linesOf_2 : decode cX2_linesOf 2 = .ok (.invokevirtual 52, 3) := by decide +kernel
theorem dX2_linesOf_5 : decode cX2_linesOf 5 = .ok (.ifCond .eq 12, 3) := by decide +kernel
theorem dX2_linesOf_8 : decode cX2_linesOf 8 = .ok (.aload_n 0, 1) := by decide +kernel
theorem dX2_linesOf_9 : decode cX2_linesOf 9 = .ok (.getfield 25, 3) := by decide +kernel
theorem dX2_linesOf_12 : decode cX2_linesOf 12 = .ok (.iload_n 1, 1) := by decide +kernel
theorem dX2_linesOf_13 : decode cX2_linesOf 13 = .ok (.iaload, 1) := by decide +kernel
theorem dX2_linesOf_14 : decode cX2_linesOf 14 = .ok (.goto 4, 3) := by decide +kernel
theorem dX2_linesOf_17 : decode cX2_linesOf 17 = .ok (.iconst 0, 1) := by decide +kernel
theorem dX2_linesOf_18 : decode cX2_linesOf 18 = .ok (.ireturn, 1) := by decide +kernel
theorem dX2_dayOf_0 : decode cX2_dayOf 0 = .ok (.aload_n 0, 1) := by decide +kernel
theorem dX2_dayOf_1 : decode cX2_dayOf 1 = .ok (.iload_n 1, 1) := by decide +kernel
theorem dX2_dayOf_2 : decode cX2_dayOf 2 = .ok (.invokevirtual 52, 3) := by decide +kernel
theorem dX2_dayOf_5 : decode cX2_dayOf 5 = .ok (.ifCond .eq 12, 3) := by decide +kernel
theorem dX2_dayOf_8 : decode cX2_dayOf 8 = .ok (.aload_n 0, 1) := by decide +kernel
theorem dX2_dayOf_9 : decode cX2_dayOf 9 = .ok (.getfield 28, 3) := by decide +kernel
theorem dX2_dayOf_12 : decode cX2_dayOf 12 = .ok (.iload_n 1, 1) := by decide +kernel
theorem dX2_dayOf_13 : decode cX2_dayOf 13 = .ok (.iaload, 1) := by decide +kernel
theorem dX2_dayOf_14 : decode cX2_dayOf 14 = .ok (.goto 5, 3) := by decide +kernel
theorem dX2_dayOf_17 : decode cX2_dayOf 17 = .ok (.bipush (-5), 2) := by decide +kernel
theorem dX2_dayOf_19 : decode cX2_dayOf 19 = .ok (.ireturn, 1) := by decide +kernel
theorem dX2_addFact_0 : decode cX2_addFact 0 = .ok (.aload_n 0, 1) := by decide +kernel
theorem dX2_addFact_1 : decode cX2_addFact 1 = .ok (.getfield 37, 3) := by decide +kernel
theorem dX2_addFact_4 : decode cX2_addFact 4 = .ok (.ifCond .lt 12, 3) := by decide +kernel
theorem dX2_addFact_7 : decode cX2_addFact 7 = .ok (.aload_n 0, 1) := by decide +kernel
theorem dX2_addFact_8 : decode cX2_addFact 8 = .ok (.getfield 37, 3) := by decide +kernel
theorem dX2_addFact_11 : decode cX2_addFact 11 = .ok (.bipush 8, 2) := by decide +kernel
theorem dX2_addFact_13 : decode cX2_addFact 13 = .ok (.if_icmp .lt 6, 3) := by decide +kernel
theorem dX2_addFact_16 : decode cX2_addFact 16 = .ok (.bipush (-3), 2) := by decide +kernel
theorem dX2_addFact_18 : decode cX2_addFact 18 = .ok (.ireturn, 1) := by decide +kernel
theorem dX2_addFact_19 : decode cX2_addFact 19 = .ok (.aload_n 0, 1) := by decide +kernel
theorem dX2_addFact_20 : decode cX2_addFact 20 = .ok (.getfield 21, 3) := by decide +kernel
theorem dX2_addFact_23 : decode cX2_addFact 23 = .ok (.aload_n 0, 1) := by decide +kernel
theorem dX2_addFact_24 : decode cX2_addFact 24 = .ok (.getfield 37, 3) := by decide +kernel
theorem dX2_addFact_27 : decode cX2_addFact 27 = .ok (.iload_n 1, 1) := by decide +kernel
theorem dX2_addFact_28 : decode cX2_addFact 28 = .ok (.iastore, 1) := by decide +kernel
theorem dX2_addFact_29 : decode cX2_addFact 29 = .ok (.aload_n 0, 1) := by decide +kernel
theorem dX2_addFact_30 : decode cX2_addFact 30 = .ok (.getfield 25, 3) := by decide +kernel
theorem dX2_addFact_33 : decode cX2_addFact 33 = .ok (.aload_n 0, 1) := by decide +kernel
theorem dX2_addFact_34 : decode cX2_addFact 34 = .ok (.getfield 37, 3) := by decide +kernel
theorem dX2_addFact_37 : decode cX2_addFact 37 = .ok (.iload_n 2, 1) := by decide +kernel
theorem dX2_addFact_38 : decode cX2_addFact 38 = .ok (.iastore, 1) := by decide +kernel
theorem dX2_addFact_39 : decode cX2_addFact 39 = .ok (.aload_n 0, 1) := by decide +kernel
theorem dX2_addFact_40 : decode cX2_addFact 40 = .ok (.getfield 28, 3) := by decide +kernel
theorem dX2_addFact_43 : decode cX2_addFact 43 = .ok (.aload_n 0, 1) := by decide +kernel
theorem dX2_addFact_44 : decode cX2_addFact 44 = .ok (.getfield 37, 3) := by decide +kernel
theorem dX2_addFact_47 : decode cX2_addFact 47 = .ok (.iload_n 3, 1) := by decide +kernel
theorem dX2_addFact_48 : decode cX2_addFact 48 = .ok (.iastore, 1) := by decide +kernel
theorem dX2_addFact_49 : decode cX2_addFact 49 = .ok (.aload_n 0, 1) := by decide +kernel
theorem dX2_addFact_50 : decode cX2_addFact 50 = .ok (.dup, 1) := by decide +kernel
theorem dX2_addFact_51 : decode cX2_addFact 51 = .ok (.getfield 37, 3) := by decide +kernel
theorem dX2_addFact_54 : decode cX2_addFact 54 = .ok (.iconst 1, 1) := by decide +kernel
theorem dX2_addFact_55 : decode cX2_addFact 55 = .ok (.iadd, 1) := by decide +kernel
theorem dX2_addFact_56 : decode cX2_addFact 56 = .ok (.putfield 37, 3) := by decide +kernel
theorem dX2_addFact_59 : decode cX2_addFact 59 = .ok (.aload_n 0, 1) := by decide +kernel
theorem dX2_addFact_60 : decode cX2_addFact 60 = .ok (.getfield 37, 3) := by decide +kernel
theorem dX2_addFact_63 : decode cX2_addFact 63 = .ok (.iconst 1, 1) := by decide +kernel
theorem dX2_addFact_64 : decode cX2_addFact 64 = .ok (.isub, 1) := by decide +kernel
theorem dX2_addFact_65 : decode cX2_addFact 65 = .ok (.ireturn, 1) := by decide +kernel
theorem dX2_removeFact_0 : decode cX2_removeFact 0 = .ok (.aload_n 0, 1) := by decide +kernel
theorem dX2_removeFact_1 : decode cX2_removeFact 1 = .ok (.iload_n 1, 1) := by decide +kernel
theorem dX2_removeFact_2 : decode cX2_removeFact 2 = .ok (.invokevirtual 52, 3) := by decide +kernel
theorem dX2_removeFact_5 : decode cX2_removeFact 5 = .ok (.ifCond .ne 4, 3) := by decide +kernel
theorem dX2_removeFact_8 : decode cX2_removeFact 8 = .ok (.return_, 1) := by decide +kernel
theorem dX2_removeFact_9 : decode cX2_removeFact 9 = .ok (.iload_n 1, 1) := by decide +kernel
theorem dX2_removeFact_10 : decode cX2_removeFact 10 = .ok (.istore_n 2, 1) := by decide +kernel
theorem dX2_removeFact_11 : decode cX2_removeFact 11 = .ok (.iload_n 2, 1) := by decide +kernel
theorem dX2_removeFact_12 : decode cX2_removeFact 12 = .ok (.aload_n 0, 1) := by decide +kernel
theorem dX2_removeFact_13 : decode cX2_removeFact 13 = .ok (.getfield 37, 3) := by decide +kernel
theorem dX2_removeFact_16 : decode cX2_removeFact 16 = .ok (.iconst 1, 1) := by decide +kernel
theorem dX2_removeFact_17 : decode cX2_removeFact 17 = .ok (.isub, 1) := by decide +kernel
theorem dX2_removeFact_18 : decode cX2_removeFact 18 = .ok (.if_icmp .ge 57, 3) := by decide +kernel
theorem dX2_removeFact_21 : decode cX2_removeFact 21 = .ok (.iload_n 2, 1) := by decide +kernel
theorem dX2_removeFact_22 : decode cX2_removeFact 22 = .ok (.bipush 7, 2) := by decide +kernel
theorem dX2_removeFact_24 : decode cX2_removeFact 24 = .ok (.if_icmp .ge 51, 3) := by decide +kernel
theorem dX2_removeFact_27 : decode cX2_removeFact 27 = .ok (.aload_n 0, 1) := by decide +kernel
theorem dX2_removeFact_28 : decode cX2_removeFact 28 = .ok (.getfield 21, 3) := by decide +kernel
theorem dX2_removeFact_31 : decode cX2_removeFact 31 = .ok (.iload_n 2, 1) := by decide +kernel
theorem dX2_removeFact_32 : decode cX2_removeFact 32 = .ok (.aload_n 0, 1) := by decide +kernel
theorem dX2_removeFact_33 : decode cX2_removeFact 33 = .ok (.getfield 21, 3) := by decide +kernel
theorem dX2_removeFact_36 : decode cX2_removeFact 36 = .ok (.iload_n 2, 1) := by decide +kernel
theorem dX2_removeFact_37 : decode cX2_removeFact 37 = .ok (.iconst 1, 1) := by decide +kernel
theorem dX2_removeFact_38 : decode cX2_removeFact 38 = .ok (.iadd, 1) := by decide +kernel
theorem dX2_removeFact_39 : decode cX2_removeFact 39 = .ok (.iaload, 1) := by decide +kernel
theorem dX2_removeFact_40 : decode cX2_removeFact 40 = .ok (.iastore, 1) := by decide +kernel
theorem dX2_removeFact_41 : decode cX2_removeFact 41 = .ok (.aload_n 0, 1) := by decide +kernel
theorem dX2_removeFact_42 : decode cX2_removeFact 42 = .ok (.getfield 25, 3) := by decide +kernel
theorem dX2_removeFact_45 : decode cX2_removeFact 45 = .ok (.iload_n 2, 1) := by decide +kernel
theorem dX2_removeFact_46 : decode cX2_removeFact 46 = .ok (.aload_n 0, 1) := by decide +kernel
theorem dX2_removeFact_47 : decode cX2_removeFact 47 = .ok (.getfield 25, 3) := by decide +kernel
theorem dX2_removeFact_50 : decode cX2_removeFact 50 = .ok (.iload_n 2, 1) := by decide +kernel
theorem dX2_removeFact_51 : decode cX2_removeFact 51 = .ok (.iconst 1, 1) := by decide +kernel
theorem dX2_removeFact_52 : decode cX2_removeFact 52 = .ok (.iadd, 1) := by decide +kernel
theorem dX2_removeFact_53 : decode cX2_removeFact 53 = .ok (.iaload, 1) := by decide +kernel
theorem dX2_removeFact_54 : decode cX2_removeFact 54 = .ok (.iastore, 1) := by decide +kernel
theorem dX2_removeFact_55 : decode cX2_removeFact 55 = .ok (.aload_n 0, 1) := by decide +kernel
theorem dX2_removeFact_56 : decode cX2_removeFact 56 = .ok (.getfield 28, 3) := by decide +kernel
theorem dX2_removeFact_59 : decode cX2_removeFact 59 = .ok (.iload_n 2, 1) := by decide +kernel
theorem dX2_removeFact_60 : decode cX2_removeFact 60 = .ok (.aload_n 0, 1) := by decide +kernel
theorem dX2_removeFact_61 : decode cX2_removeFact 61 = .ok (.getfield 28, 3) := by decide +kernel
theorem dX2_removeFact_64 : decode cX2_removeFact 64 = .ok (.iload_n 2, 1) := by decide +kernel
theorem dX2_removeFact_65 : decode cX2_removeFact 65 = .ok (.iconst 1, 1) := by decide +kernel
theorem dX2_removeFact_66 : decode cX2_removeFact 66 = .ok (.iadd, 1) := by decide +kernel
theorem dX2_removeFact_67 : decode cX2_removeFact 67 = .ok (.iaload, 1) := by decide +kernel
theorem dX2_removeFact_68 : decode cX2_removeFact 68 = .ok (.iastore, 1) := by decide +kernel
theorem dX2_removeFact_69 : decode cX2_removeFact 69 = .ok (.iinc 2 1, 3) := by decide +kernel
theorem dX2_removeFact_72 : decode cX2_removeFact 72 = .ok (.goto (-61), 3) := by decide +kernel
theorem dX2_removeFact_75 : decode cX2_removeFact 75 = .ok (.aload_n 0, 1) := by decide +kernel
theorem dX2_removeFact_76 : decode cX2_removeFact 76 = .ok (.dup, 1) := by decide +kernel
theorem dX2_removeFact_77 : decode cX2_removeFact 77 = .ok (.getfield 37, 3) := by decide +kernel
theorem dX2_removeFact_80 : decode cX2_removeFact 80 = .ok (.iconst 1, 1) := by decide +kernel
theorem dX2_removeFact_81 : decode cX2_removeFact 81 = .ok (.isub, 1) := by decide +kernel
theorem dX2_removeFact_82 : decode cX2_removeFact 82 = .ok (.putfield 37, 3) := by decide +kernel
theorem dX2_removeFact_85 : decode cX2_removeFact 85 = .ok (.return_, 1) := by decide +kernel
theorem dX2_changeDay_0 : decode cX2_changeDay 0 = .ok (.aload_n 0, 1) := by decide +kernel
theorem dX2_changeDay_1 : decode cX2_changeDay 1 = .ok (.iload_n 1, 1) := by decide +kernel
theorem dX2_changeDay_2 : decode cX2_changeDay 2 = .ok (.invokevirtual 52, 3) := by decide +kernel
theorem dX2_changeDay_5 : decode cX2_changeDay 5 = .ok (.ifCond .eq 10, 3) := by decide +kernel
theorem dX2_changeDay_8 : decode cX2_changeDay 8 = .ok (.aload_n 0, 1) := by decide +kernel
theorem dX2_changeDay_9 : decode cX2_changeDay 9 = .ok (.getfield 28, 3) := by decide +kernel
theorem dX2_changeDay_12 : decode cX2_changeDay 12 = .ok (.iload_n 1, 1) := by decide +kernel
theorem dX2_changeDay_13 : decode cX2_changeDay 13 = .ok (.iload_n 2, 1) := by decide +kernel
theorem dX2_changeDay_14 : decode cX2_changeDay 14 = .ok (.iastore, 1) := by decide +kernel
theorem dX2_changeDay_15 : decode cX2_changeDay 15 = .ok (.return_, 1) := by decide +kernel
theorem dX2_length_0 : decode cX2_length 0 = .ok (.iconst 0, 1) := by decide +kernel
theorem dX2_length_1 : decode cX2_length 1 = .ok (.istore_n 1, 1) := by decide +kernel
theorem dX2_length_2 : decode cX2_length 2 = .ok (.iconst 0, 1) := by decide +kernel
theorem dX2_length_3 : decode cX2_length 3 = .ok (.istore_n 2, 1) := by decide +kernel
theorem dX2_length_4 : decode cX2_length 4 = .ok (.iload_n 2, 1) := by decide +kernel
theorem dX2_length_5 : decode cX2_length 5 = .ok (.aload_n 0, 1) := by decide +kernel
theorem dX2_length_6 : decode cX2_length 6 = .ok (.getfield 37, 3) := by decide +kernel
theorem dX2_length_9 : decode cX2_length 9 = .ok (.if_icmp .ge 17, 3) := by decide +kernel
theorem dX2_length_12 : decode cX2_length 12 = .ok (.iload_n 1, 1) := by decide +kernel
theorem dX2_length_13 : decode cX2_length 13 = .ok (.aload_n 0, 1) := by decide +kernel
theorem dX2_length_14 : decode cX2_length 14 = .ok (.iload_n 2, 1) := by decide +kernel
theorem dX2_length_15 : decode cX2_length 15 = .ok (.invokevirtual 56, 3) := by decide +kernel
theorem dX2_length_18 : decode cX2_length 18 = .ok (.iadd, 1) := by decide +kernel
theorem dX2_length_19 : decode cX2_length 19 = .ok (.istore_n 1, 1) := by decide +kernel
theorem dX2_length_20 : decode cX2_length 20 = .ok (.iinc 2 1, 3) := by decide +kernel
theorem dX2_length_23 : decode cX2_length 23 = .ok (.goto (-19), 3) := by decide +kernel
theorem dX2_length_26 : decode cX2_length 26 = .ok (.iload_n 1, 1) := by decide +kernel
theorem dX2_length_27 : decode cX2_length 27 = .ok (.ireturn, 1) := by decide +kernel
theorem dX2_differentSources_0 : decode cX2_differentSources 0 = .ok (.iconst 0, 1) := by decide +kernel
theorem dX2_differentSources_1 : decode cX2_differentSources 1 = .ok (.istore_n 1, 1) := by decide +kernel
theorem dX2_differentSources_2 : decode cX2_differentSources 2 = .ok (.iconst 0, 1) := by decide +kernel
theorem dX2_differentSources_3 : decode cX2_differentSources 3 = .ok (.istore_n 2, 1) := by decide +kernel
theorem dX2_differentSources_4 : decode cX2_differentSources 4 = .ok (.iload_n 2, 1) := by decide +kernel
theorem dX2_differentSources_5 : decode cX2_differentSources 5 = .ok (.aload_n 0, 1) := by decide +kernel
theorem dX2_differentSources_6 : decode cX2_differentSources 6 = .ok (.getfield 37, 3) := by decide +kernel
theorem dX2_differentSources_9 : decode cX2_differentSources 9 = .ok (.if_icmp .ge 19, 3) := by decide +kernel
theorem dX2_differentSources_12 : decode cX2_differentSources 12 = .ok (.iload_n 1, 1) := by decide +kernel
theorem dX2_differentSources_13 : decode cX2_differentSources 13 = .ok (.iconst 1, 1) := by decide +kernel
theorem dX2_differentSources_14 : decode cX2_differentSources 14 = .ok (.aload_n 0, 1) := by decide +kernel
theorem dX2_differentSources_15 : decode cX2_differentSources 15 = .ok (.iload_n 2, 1) := by decide +kernel
theorem dX2_differentSources_16 : decode cX2_differentSources 16 = .ok (.invokevirtual 60, 3) := by decide +kernel
theorem dX2_differentSources_19 : decode cX2_differentSources 19 = .ok (.ishl, 1) := by decide +kernel
theorem dX2_differentSources_20 : decode cX2_differentSources 20 = .ok (.ior, 1) := by decide +kernel
theorem dX2_differentSources_21 : decode cX2_differentSources 21 = .ok (.istore_n 1, 1) := by decide +kernel
theorem dX2_differentSources_22 : decode cX2_differentSources 22 = .ok (.iinc 2 1, 3) := by decide +kernel
theorem dX2_differentSources_25 : decode cX2_differentSources 25 = .ok (.goto (-21), 3) := by decide +kernel
theorem dX2_differentSources_28 : decode cX2_differentSources 28 = .ok (.iload_n 1, 1) := by decide +kernel
theorem dX2_differentSources_29 : decode cX2_differentSources 29 = .ok (.invokestatic 63, 3) := by decide +kernel
theorem dX2_differentSources_32 : decode cX2_differentSources 32 = .ok (.ireturn, 1) := by decide +kernel
theorem dX3_init_0 : decode cX3_init 0 = .ok (.aload_n 0, 1) := by decide +kernel
theorem dX3_init_1 : decode cX3_init 1 = .ok (.invokespecial 3, 3) := by decide +kernel
theorem dX3_init_4 : decode cX3_init 4 = .ok (.aload_n 0, 1) := by decide +kernel
theorem dX3_init_5 : decode cX3_init 5 = .ok (.new 9, 3) := by decide +kernel
theorem dX3_init_8 : decode cX3_init 8 = .ok (.dup, 1) := by decide +kernel
theorem dX3_init_9 : decode cX3_init 9 = .ok (.invokespecial 11, 3) := by decide +kernel
theorem dX3_init_12 : decode cX3_init 12 = .ok (.putfield 12, 3) := by decide +kernel
theorem dX3_init_15 : decode cX3_init 15 = .ok (.aload_n 0, 1) := by decide +kernel
theorem dX3_init_16 : decode cX3_init 16 = .ok (.bipush 20, 2) := by decide +kernel
theorem dX3_init_18 : decode cX3_init 18 = .ok (.newarray .int, 2) := by decide +kernel
theorem dX3_init_20 : decode cX3_init 20 = .ok (.putfield 18, 3) := by decide +kernel
theorem dX3_init_23 : decode cX3_init 23 = .ok (.return_, 1) := by decide +kernel
theorem dX3_lay_0 : decode cX3_lay 0 = .ok (.aload_n 0, 1) := by decide +kernel
theorem dX3_lay_1 : decode cX3_lay 1 = .ok (.aload_n 1, 1) := by decide +kernel
theorem dX3_lay_2 : decode cX3_lay 2 = .ok (.invokevirtual 22, 3) := by decide +kernel
theorem dX3_lay_5 : decode cX3_lay 5 = .ok (.aload_n 0, 1) := by decide +kernel
theorem dX3_lay_6 : decode cX3_lay 6 = .ok (.iconst 0, 1) := by decide +kernel
theorem dX3_lay_7 : decode cX3_lay 7 = .ok (.putfield 26, 3) := by decide +kernel
theorem dX3_lay_10 : decode cX3_lay 10 = .ok (.aload_n 0, 1) := by decide +kernel
theorem dX3_lay_11 : decode cX3_lay 11 = .ok (.aload_n 1, 1) := by decide +kernel
theorem dX3_lay_12 : decode cX3_lay 12 = .ok (.iconst 1, 1) := by decide +kernel
theorem dX3_lay_13 : decode cX3_lay 13 = .ok (.invokevirtual 30, 3) := by decide +kernel
theorem dX3_lay_16 : decode cX3_lay 16 = .ok (.putfield 36, 3) := by decide +kernel
theorem dX3_lay_19 : decode cX3_lay 19 = .ok (.iconst 0, 1) := by decide +kernel
theorem dX3_lay_20 : decode cX3_lay 20 = .ok (.istore_n 2, 1) := by decide +kernel
theorem dX3_lay_21 : decode cX3_lay 21 = .ok (.iload_n 2, 1) := by decide +kernel
theorem dX3_lay_22 : decode cX3_lay 22 = .ok (.aload_n 0, 1) := by decide +kernel
theorem dX3_lay_23 : decode cX3_lay 23 = .ok (.getfield 12, 3) := by decide +kernel
theorem dX3_lay_26 : decode cX3_lay 26 = .ok (.invokevirtual 39, 3) := by decide +kernel
theorem dX3_lay_29 : decode cX3_lay 29 = .ok (.if_icmp .ge 94, 3) := by decide +kernel
theorem dX3_lay_32 : decode cX3_lay 32 = .ok (.aload_n 0, 1) := by decide +kernel
theorem dX3_lay_33 : decode cX3_lay 33 = .ok (.getfield 26, 3) := by decide +kernel
theorem dX3_lay_36 : decode cX3_lay 36 = .ok (.bipush 20, 2) := by decide +kernel
theorem dX3_lay_38 : decode cX3_lay 38 = .ok (.if_icmp .ge 85, 3) := by decide +kernel
theorem dX3_lay_41 : decode cX3_lay 41 = .ok (.aload_n 0, 1) := by decide +kernel
theorem dX3_lay_42 : decode cX3_lay 42 = .ok (.getfield 12, 3) := by decide +kernel
theorem dX3_lay_45 : decode cX3_lay 45 = .ok (.iload_n 2, 1) := by decide +kernel
theorem dX3_lay_46 : decode cX3_lay 46 = .ok (.invokevirtual 42, 3) := by decide +kernel
theorem dX3_lay_49 : decode cX3_lay 49 = .ok (.istore_n 3, 1) := by decide +kernel
theorem dX3_lay_50 : decode cX3_lay 50 = .ok (.aload_n 1, 1) := by decide +kernel
theorem dX3_lay_51 : decode cX3_lay 51 = .ok (.iload_n 3, 1) := by decide +kernel
theorem dX3_lay_52 : decode cX3_lay 52 = .ok (.invokevirtual 45, 3) := by decide +kernel
theorem dX3_lay_55 : decode cX3_lay 55 = .ok (.astore 4, 2) := by decide +kernel
theorem dX3_lay_57 : decode cX3_lay 57 = .ok (.aload 4, 2) := by decide +kernel
theorem dX3_lay_59 : decode cX3_lay 59 = .ok (.ifnull 58, 3) := by decide +kernel
theorem dX3_lay_62 : decode cX3_lay 62 = .ok (.aload_n 1, 1) := by decide +kernel
theorem dX3_lay_63 : decode cX3_lay 63 = .ok (.aload 4, 2) := by decide +kernel
theorem dX3_lay_65 : decode cX3_lay 65 = .ok (.invokevirtual 49, 3) := by decide +kernel
theorem dX3_lay_68 : decode cX3_lay 68 = .ok (.ifCond .eq 49, 3) := by decide +kernel
theorem dX3_lay_71 : decode cX3_lay 71 = .ok (.aload 4, 2) := by decide +kernel
theorem dX3_lay_73 : decode cX3_lay 73 = .ok (.invokevirtual 53, 3) := by decide +kernel
theorem dX3_lay_76 : decode cX3_lay 76 = .ok (.aload_n 0, 1) := by decide +kernel
theorem dX3_lay_77 : decode cX3_lay 77 = .ok (.getfield 36, 3) := by decide +kernel
theorem dX3_lay_80 : decode cX3_lay 80 = .ok (.if_icmp .gt 37, 3) := by decide +kernel
theorem dX3_lay_83 : decode cX3_lay 83 = .ok (.aload_n 0, 1) := by decide +kernel
theorem dX3_lay_84 : decode cX3_lay 84 = .ok (.dup, 1) := by decide +kernel
theorem dX3_lay_85 : decode cX3_lay 85 = .ok (.getfield 36, 3) := by decide +kernel
theorem dX3_lay_88 : decode cX3_lay 88 = .ok (.aload 4, 2) := by decide +kernel
theorem dX3_lay_90 : decode cX3_lay 90 = .ok (.invokevirtual 53, 3) := by decide +kernel
theorem dX3_lay_93 : decode cX3_lay 93 = .ok (.isub, 1) := by decide +kernel
theorem dX3_lay_94 : decode cX3_lay 94 = .ok (.putfield 36, 3) := by decide +kernel
theorem dX3_lay_97 : decode cX3_lay 97 = .ok (.aload_n 0, 1) := by decide +kernel
theorem dX3_lay_98 : decode cX3_lay 98 = .ok (.getfield 18, 3) := by decide +kernel
theorem dX3_lay_101 : decode cX3_lay 101 = .ok (.aload_n 0, 1) := by decide +kernel
theorem dX3_lay_102 : decode cX3_lay 102 = .ok (.getfield 26, 3) := by decide +kernel
theorem dX3_lay_105 : decode cX3_lay 105 = .ok (.iload_n 3, 1) := by decide +kernel
theorem dX3_lay_106 : decode cX3_lay 106 = .ok (.iastore, 1) := by decide +kernel
theorem dX3_lay_107 : decode cX3_lay 107 = .ok (.aload_n 0, 1) := by decide +kernel
theorem dX3_lay_108 : decode cX3_lay 108 = .ok (.dup, 1) := by decide +kernel
theorem dX3_lay_109 : decode cX3_lay 109 = .ok (.getfield 26, 3) := by decide +kernel
theorem dX3_lay_112 : decode cX3_lay 112 = .ok (.iconst 1, 1) := by decide +kernel
theorem dX3_lay_113 : decode cX3_lay 113 = .ok (.iadd, 1) := by decide +kernel
theorem dX3_lay_114 : decode cX3_lay 114 = .ok (.putfield 26, 3) := by decide +kernel
theorem dX3_lay_117 : decode cX3_lay 117 = .ok (.iinc 2 1, 3) := by decide +kernel
theorem dX3_lay_120 : decode cX3_lay 120 = .ok (.goto (-99), 3) := by decide +kernel
theorem dX3_lay_123 : decode cX3_lay 123 = .ok (.return_, 1) := by decide +kernel
theorem dX3_size_0 : decode cX3_size 0 = .ok (.aload_n 0, 1) := by decide +kernel
theorem dX3_size_1 : decode cX3_size 1 = .ok (.getfield 26, 3) := by decide +kernel
theorem dX3_size_4 : decode cX3_size 4 = .ok (.ireturn, 1) := by decide +kernel
theorem dX3_linesFree_0 : decode cX3_linesFree 0 = .ok (.aload_n 0, 1) := by decide +kernel
theorem dX3_linesFree_1 : decode cX3_linesFree 1 = .ok (.getfield 36, 3) := by decide +kernel
theorem dX3_linesFree_4 : decode cX3_linesFree 4 = .ok (.ireturn, 1) := by decide +kernel
theorem dX3_queueDead_0 : decode cX3_queueDead 0 = .ok (.aload_n 0, 1) := by decide +kernel
theorem dX3_queueDead_1 : decode cX3_queueDead 1 = .ok (.getfield 12, 3) := by decide +kernel
theorem dX3_queueDead_4 : decode cX3_queueDead 4 = .ok (.invokevirtual 58, 3) := by decide +kernel
theorem dX3_queueDead_7 : decode cX3_queueDead 7 = .ok (.iconst 0, 1) := by decide +kernel
theorem dX3_queueDead_8 : decode cX3_queueDead 8 = .ok (.istore_n 2, 1) := by decide +kernel
theorem dX3_queueDead_9 : decode cX3_queueDead 9 = .ok (.iload_n 2, 1) := by decide +kernel
theorem dX3_queueDead_10 : decode cX3_queueDead 10 = .ok (.aload_n 1, 1) := by decide +kernel
theorem dX3_queueDead_11 : decode cX3_queueDead 11 = .ok (.invokevirtual 61, 3) := by decide +kernel
theorem dX3_queueDead_14 : decode cX3_queueDead 14 = .ok (.if_icmp .ge 56, 3) := by decide +kernel
theorem dX3_queueDead_17 : decode cX3_queueDead 17 = .ok (.aload_n 1, 1) := by decide +kernel
theorem dX3_queueDead_18 : decode cX3_queueDead 18 = .ok (.iload_n 2, 1) := by decide +kernel
theorem dX3_queueDead_19 : decode cX3_queueDead 19 = .ok (.invokevirtual 45, 3) := by decide +kernel
theorem dX3_queueDead_22 : decode cX3_queueDead 22 = .ok (.astore_n 3, 1) := by decide +kernel
theorem dX3_queueDead_23 : decode cX3_queueDead 23 = .ok (.aload_n 3, 1) := by decide +kernel
theorem dX3_queueDead_24 : decode cX3_queueDead 24 = .ok (.ifnull 40, 3) := by decide +kernel
theorem dX3_queueDead_27 : decode cX3_queueDead 27 = .ok (.aload_n 3, 1) := by decide +kernel
theorem dX3_queueDead_28 : decode cX3_queueDead 28 = .ok (.iconst 2, 1) := by decide +kernel
theorem dX3_queueDead_29 : decode cX3_queueDead 29 = .ok (.invokevirtual 63, 3) := by decide +kernel
theorem dX3_queueDead_32 : decode cX3_queueDead 32 = .ok (.ifCond .eq 32, 3) := by decide +kernel
theorem dX3_queueDead_35 : decode cX3_queueDead 35 = .ok (.sipush 9999, 3) := by decide +kernel
theorem dX3_queueDead_38 : decode cX3_queueDead 38 = .ok (.aload_n 3, 1) := by decide +kernel
theorem dX3_queueDead_39 : decode cX3_queueDead 39 = .ok (.invokevirtual 67, 3) := by decide +kernel
theorem dX3_queueDead_42 : decode cX3_queueDead 42 = .ok (.isub, 1) := by decide +kernel
theorem dX3_queueDead_43 : decode cX3_queueDead 43 = .ok (.istore 4, 2) := by decide +kernel
theorem dX3_queueDead_45 : decode cX3_queueDead 45 = .ok (.aload_n 0, 1) := by decide +kernel
theorem dX3_queueDead_46 : decode cX3_queueDead 46 = .ok (.getfield 12, 3) := by decide +kernel
theorem dX3_queueDead_49 : decode cX3_queueDead 49 = .ok (.iload_n 2, 1) := by decide +kernel
theorem dX3_queueDead_50 : decode cX3_queueDead 50 = .ok (.aload_n 3, 1) := by decide +kernel
theorem dX3_queueDead_51 : decode cX3_queueDead 51 = .ok (.invokevirtual 70, 3) := by decide +kernel
theorem dX3_queueDead_54 : decode cX3_queueDead 54 = .ok (.sipush 10000, 3) := by decide +kernel
theorem dX3_queueDead_57 : decode cX3_queueDead 57 = .ok (.imul, 1) := by decide +kernel
theorem dX3_queueDead_58 : decode cX3_queueDead 58 = .ok (.iload 4, 2) := by decide +kernel
theorem dX3_queueDead_60 : decode cX3_queueDead 60 = .ok (.iadd, 1) := by decide +kernel
theorem dX3_queueDead_61 : decode cX3_queueDead 61 = .ok (.invokevirtual 73, 3) := by decide +kernel
theorem dX3_queueDead_64 : decode cX3_queueDead 64 = .ok (.iinc 2 1, 3) := by decide +kernel
theorem dX3_queueDead_67 : decode cX3_queueDead 67 = .ok (.goto (-58), 3) := by decide +kernel
theorem dX3_queueDead_70 : decode cX3_queueDead 70 = .ok (.return_, 1) := by decide +kernel
theorem dX3_personAt_0 : decode cX3_personAt 0 = .ok (.iload_n 1, 1) := by decide +kernel
theorem dX3_personAt_1 : decode cX3_personAt 1 = .ok (.ifCond .lt 26, 3) := by decide +kernel
theorem dX3_personAt_4 : decode cX3_personAt 4 = .ok (.iload_n 1, 1) := by decide +kernel
theorem dX3_personAt_5 : decode cX3_personAt 5 = .ok (.aload_n 0, 1) := by decide +kernel
theorem dX3_personAt_6 : decode cX3_personAt 6 = .ok (.getfield 26, 3) := by decide +kernel
theorem dX3_personAt_9 : decode cX3_personAt 9 = .ok (.if_icmp .ge 18, 3) := by decide +kernel
theorem dX3_personAt_12 : decode cX3_personAt 12 = .ok (.iload_n 1, 1) := by decide +kernel
theorem dX3_personAt_13 : decode cX3_personAt 13 = .ok (.bipush 20, 2) := by decide +kernel
theorem dX3_personAt_15 : decode cX3_personAt 15 = .ok (.if_icmp .ge 12, 3) := by decide +kernel
theorem dX3_personAt_18 : decode cX3_personAt 18 = .ok (.aload_n 0, 1) := by decide +kernel
theorem dX3_personAt_19 : decode cX3_personAt 19 = .ok (.getfield 18, 3) := by decide +kernel
theorem dX3_personAt_22 : decode cX3_personAt 22 = .ok (.iload_n 1, 1) := by decide +kernel
theorem dX3_personAt_23 : decode cX3_personAt 23 = .ok (.iaload, 1) := by decide +kernel
theorem dX3_personAt_24 : decode cX3_personAt 24 = .ok (.goto 5, 3) := by decide +kernel
theorem dX3_personAt_27 : decode cX3_personAt 27 = .ok (.bipush (-5), 2) := by decide +kernel
theorem dX3_personAt_29 : decode cX3_personAt 29 = .ok (.ireturn, 1) := by decide +kernel
theorem dX4_init_0 : decode cX4_init 0 = .ok (.aload_n 0, 1) := by decide +kernel
theorem dX4_init_1 : decode cX4_init 1 = .ok (.invokespecial 3, 3) := by decide +kernel
theorem dX4_init_4 : decode cX4_init 4 = .ok (.aload_n 0, 1) := by decide +kernel
theorem dX4_init_5 : decode cX4_init 5 = .ok (.bipush 60, 2) := by decide +kernel
theorem dX4_init_7 : decode cX4_init 7 = .ok (.newarray .char, 2) := by decide +kernel
theorem dX4_init_9 : decode cX4_init 9 = .ok (.putfield 9, 3) := by decide +kernel
theorem dX4_init_12 : decode cX4_init 12 = .ok (.aload_n 0, 1) := by decide +kernel
theorem dX4_init_13 : decode cX4_init 13 = .ok (.bipush 15, 2) := by decide +kernel
theorem dX4_init_15 : decode cX4_init 15 = .ok (.anewarray 15, 3) := by decide +kernel
theorem dX4_init_18 : decode cX4_init 18 = .ok (.putfield 17, 3) := by decide +kernel
theorem dX4_init_21 : decode cX4_init 21 = .ok (.iconst 0, 1) := by decide +kernel
theorem dX4_init_22 : decode cX4_init 22 = .ok (.istore_n 1, 1) := by decide +kernel
theorem dX4_init_23 : decode cX4_init 23 = .ok (.iload_n 1, 1) := by decide +kernel
theorem dX4_init_24 : decode cX4_init 24 = .ok (.bipush 15, 2) := by decide +kernel
theorem dX4_init_26 : decode cX4_init 26 = .ok (.if_icmp .ge 22, 3) := by decide +kernel
theorem dX4_init_29 : decode cX4_init 29 = .ok (.aload_n 0, 1) := by decide +kernel
theorem dX4_init_30 : decode cX4_init 30 = .ok (.getfield 17, 3) := by decide +kernel
theorem dX4_init_33 : decode cX4_init 33 = .ok (.iload_n 1, 1) := by decide +kernel
theorem dX4_init_34 : decode cX4_init 34 = .ok (.new 15, 3) := by decide +kernel
theorem dX4_init_37 : decode cX4_init 37 = .ok (.dup, 1) := by decide +kernel
theorem dX4_init_38 : decode cX4_init 38 = .ok (.invokespecial 21, 3) := by decide +kernel
theorem dX4_init_41 : decode cX4_init 41 = .ok (.aastore, 1) := by decide +kernel
theorem dX4_init_42 : decode cX4_init 42 = .ok (.iinc 1 1, 3) := by decide +kernel
theorem dX4_init_45 : decode cX4_init 45 = .ok (.goto (-22), 3) := by decide +kernel
theorem dX4_init_48 : decode cX4_init 48 = .ok (.return_, 1) := by decide +kernel
theorem dX4_length_0 : decode cX4_length 0 = .ok (.aload_n 0, 1) := by decide +kernel
theorem dX4_length_1 : decode cX4_length 1 = .ok (.getfield 22, 3) := by decide +kernel
theorem dX4_length_4 : decode cX4_length 4 = .ok (.ireturn, 1) := by decide +kernel
theorem dX5_init_0 : decode cX5_init 0 = .ok (.aload_n 0, 1) := by decide +kernel
theorem dX5_init_1 : decode cX5_init 1 = .ok (.invokespecial 3, 3) := by decide +kernel
theorem dX5_init_4 : decode cX5_init 4 = .ok (.aload_n 0, 1) := by decide +kernel
theorem dX5_init_5 : decode cX5_init 5 = .ok (.bipush 20, 2) := by decide +kernel
theorem dX5_init_7 : decode cX5_init 7 = .ok (.newarray .int, 2) := by decide +kernel
theorem dX5_init_9 : decode cX5_init 9 = .ok (.putfield 9, 3) := by decide +kernel
theorem dX5_init_12 : decode cX5_init 12 = .ok (.aload_n 0, 1) := by decide +kernel
theorem dX5_init_13 : decode cX5_init 13 = .ok (.bipush 20, 2) := by decide +kernel
theorem dX5_init_15 : decode cX5_init 15 = .ok (.newarray .int, 2) := by decide +kernel
theorem dX5_init_17 : decode cX5_init 17 = .ok (.putfield 15, 3) := by decide +kernel
theorem dX5_init_20 : decode cX5_init 20 = .ok (.return_, 1) := by decide +kernel
theorem dX5_clear_0 : decode cX5_clear 0 = .ok (.aload_n 0, 1) := by decide +kernel
theorem dX5_clear_1 : decode cX5_clear 1 = .ok (.iconst 0, 1) := by decide +kernel
theorem dX5_clear_2 : decode cX5_clear 2 = .ok (.putfield 18, 3) := by decide +kernel
theorem dX5_clear_5 : decode cX5_clear 5 = .ok (.return_, 1) := by decide +kernel
theorem dX5_size_0 : decode cX5_size 0 = .ok (.aload_n 0, 1) := by decide +kernel
theorem dX5_size_1 : decode cX5_size 1 = .ok (.getfield 18, 3) := by decide +kernel
theorem dX5_size_4 : decode cX5_size 4 = .ok (.ireturn, 1) := by decide +kernel
theorem dX5_enter_0 : decode cX5_enter 0 = .ok (.aload_n 0, 1) := by decide +kernel
theorem dX5_enter_1 : decode cX5_enter 1 = .ok (.getfield 18, 3) := by decide +kernel
theorem dX5_enter_4 : decode cX5_enter 4 = .ok (.ifCond .lt 12, 3) := by decide +kernel
theorem dX5_enter_7 : decode cX5_enter 7 = .ok (.aload_n 0, 1) := by decide +kernel
theorem dX5_enter_8 : decode cX5_enter 8 = .ok (.getfield 18, 3) := by decide +kernel
theorem dX5_enter_11 : decode cX5_enter 11 = .ok (.bipush 20, 2) := by decide +kernel
theorem dX5_enter_13 : decode cX5_enter 13 = .ok (.if_icmp .lt 4, 3) := by decide +kernel
theorem dX5_enter_16 : decode cX5_enter 16 = .ok (.return_, 1) := by decide +kernel
theorem dX5_enter_17 : decode cX5_enter 17 = .ok (.aload_n 0, 1) := by decide +kernel
theorem dX5_enter_18 : decode cX5_enter 18 = .ok (.getfield 18, 3) := by decide +kernel
theorem dX5_enter_21 : decode cX5_enter 21 = .ok (.istore_n 3, 1) := by decide +kernel
theorem dX5_enter_22 : decode cX5_enter 22 = .ok (.iload_n 3, 1) := by decide +kernel
theorem dX5_enter_23 : decode cX5_enter 23 = .ok (.ifCond .le 49, 3) := by decide +kernel
theorem dX5_enter_26 : decode cX5_enter 26 = .ok (.aload_n 0, 1) := by decide +kernel
theorem dX5_enter_27 : decode cX5_enter 27 = .ok (.getfield 15, 3) := by decide +kernel
theorem dX5_enter_30 : decode cX5_enter 30 = .ok (.iload_n 3, 1) := by decide +kernel
theorem dX5_enter_31 : decode cX5_enter 31 = .ok (.iconst 1, 1) := by decide +kernel
theorem dX5_enter_32 : decode cX5_enter 32 = .ok (.isub, 1) := by decide +kernel
theorem dX5_enter_33 : decode cX5_enter 33 = .ok (.iaload, 1) := by decide +kernel
theorem dX5_enter_34 : decode cX5_enter 34 = .ok (.iload_n 2, 1) := by decide +kernel
theorem dX5_enter_35 : decode cX5_enter 35 = .ok (.if_icmp .ge 37, 3) := by decide +kernel
theorem dX5_enter_38 : decode cX5_enter 38 = .ok (.aload_n 0, 1) := by decide +kernel
theorem dX5_enter_39 : decode cX5_enter 39 = .ok (.getfield 9, 3) := by decide +kernel
theorem dX5_enter_42 : decode cX5_enter 42 = .ok (.iload_n 3, 1) := by decide +kernel
theorem dX5_enter_43 : decode cX5_enter 43 = .ok (.aload_n 0, 1) := by decide +kernel
theorem dX5_enter_44 : decode cX5_enter 44 = .ok (.getfield 9, 3) := by decide +kernel
theorem dX5_enter_47 : decode cX5_enter 47 = .ok (.iload_n 3, 1) := by decide +kernel
theorem dX5_enter_48 : decode cX5_enter 48 = .ok (.iconst 1, 1) := by decide +kernel
theorem dX5_enter_49 : decode cX5_enter 49 = .ok (.isub, 1) := by decide +kernel
theorem dX5_enter_50 : decode cX5_enter 50 = .ok (.iaload, 1) := by decide +kernel
theorem dX5_enter_51 : decode cX5_enter 51 = .ok (.iastore, 1) := by decide +kernel
theorem dX5_enter_52 : decode cX5_enter 52 = .ok (.aload_n 0, 1) := by decide +kernel
theorem dX5_enter_53 : decode cX5_enter 53 = .ok (.getfield 15, 3) := by decide +kernel
theorem dX5_enter_56 : decode cX5_enter 56 = .ok (.iload_n 3, 1) := by decide +kernel
theorem dX5_enter_57 : decode cX5_enter 57 = .ok (.aload_n 0, 1) := by decide +kernel
theorem dX5_enter_58 : decode cX5_enter 58 = .ok (.getfield 15, 3) := by decide +kernel
theorem dX5_enter_61 : decode cX5_enter 61 = .ok (.iload_n 3, 1) := by decide +kernel
theorem dX5_enter_62 : decode cX5_enter 62 = .ok (.iconst 1, 1) := by decide +kernel
theorem dX5_enter_63 : decode cX5_enter 63 = .ok (.isub, 1) := by decide +kernel
theorem dX5_enter_64 : decode cX5_enter 64 = .ok (.iaload, 1) := by decide +kernel
theorem dX5_enter_65 : decode cX5_enter 65 = .ok (.iastore, 1) := by decide +kernel
theorem dX5_enter_66 : decode cX5_enter 66 = .ok (.iinc 3 (-1), 3) := by decide +kernel
theorem dX5_enter_69 : decode cX5_enter 69 = .ok (.goto (-47), 3) := by decide +kernel
theorem dX5_enter_72 : decode cX5_enter 72 = .ok (.aload_n 0, 1) := by decide +kernel
theorem dX5_enter_73 : decode cX5_enter 73 = .ok (.getfield 9, 3) := by decide +kernel
theorem dX5_enter_76 : decode cX5_enter 76 = .ok (.iload_n 3, 1) := by decide +kernel
theorem dX5_enter_77 : decode cX5_enter 77 = .ok (.iload_n 1, 1) := by decide +kernel
theorem dX5_enter_78 : decode cX5_enter 78 = .ok (.iastore, 1) := by decide +kernel
theorem dX5_enter_79 : decode cX5_enter 79 = .ok (.aload_n 0, 1) := by decide +kernel
theorem dX5_enter_80 : decode cX5_enter 80 = .ok (.getfield 15, 3) := by decide +kernel
theorem dX5_enter_83 : decode cX5_enter 83 = .ok (.iload_n 3, 1) := by decide +kernel
theorem dX5_enter_84 : decode cX5_enter 84 = .ok (.iload_n 2, 1) := by decide +kernel
theorem dX5_enter_85 : decode cX5_enter 85 = .ok (.iastore, 1) := by decide +kernel
theorem dX5_enter_86 : decode cX5_enter 86 = .ok (.aload_n 0, 1) := by decide +kernel
theorem dX5_enter_87 : decode cX5_enter 87 = .ok (.dup, 1) := by decide +kernel
theorem dX5_enter_88 : decode cX5_enter 88 = .ok (.getfield 18, 3) := by decide +kernel
theorem dX5_enter_91 : decode cX5_enter 91 = .ok (.iconst 1, 1) := by decide +kernel
theorem dX5_enter_92 : decode cX5_enter 92 = .ok (.iadd, 1) := by decide +kernel
theorem dX5_enter_93 : decode cX5_enter 93 = .ok (.putfield 18, 3) := by decide +kernel
theorem dX5_enter_96 : decode cX5_enter 96 = .ok (.return_, 1) := by decide +kernel
theorem dX5_personAt_0 : decode cX5_personAt 0 = .ok (.iload_n 1, 1) := by decide +kernel
theorem dX5_personAt_1 : decode cX5_personAt 1 = .ok (.ifCond .lt 26, 3) := by decide +kernel
theorem dX5_personAt_4 : decode cX5_personAt 4 = .ok (.iload_n 1, 1) := by decide +kernel
theorem dX5_personAt_5 : decode cX5_personAt 5 = .ok (.aload_n 0, 1) := by decide +kernel
theorem dX5_personAt_6 : decode cX5_personAt 6 = .ok (.getfield 18, 3) := by decide +kernel
theorem dX5_personAt_9 : decode cX5_personAt 9 = .ok (.if_icmp .ge 18, 3) := by decide +kernel
theorem dX5_personAt_12 : decode cX5_personAt 12 = .ok (.iload_n 1, 1) := by decide +kernel
theorem dX5_personAt_13 : decode cX5_personAt 13 = .ok (.bipush 20, 2) := by decide +kernel
theorem dX5_personAt_15 : decode cX5_personAt 15 = .ok (.if_icmp .ge 12, 3) := by decide +kernel
theorem dX5_personAt_18 : decode cX5_personAt 18 = .ok (.aload_n 0, 1) := by decide +kernel
theorem dX5_personAt_19 : decode cX5_personAt 19 = .ok (.getfield 9, 3) := by decide +kernel
theorem dX5_personAt_22 : decode cX5_personAt 22 = .ok (.iload_n 1, 1) := by decide +kernel
theorem dX5_personAt_23 : decode cX5_personAt 23 = .ok (.iaload, 1) := by decide +kernel
theorem dX5_personAt_24 : decode cX5_personAt 24 = .ok (.goto 5, 3) := by decide +kernel
theorem dX5_personAt_27 : decode cX5_personAt 27 = .ok (.bipush (-5), 2) := by decide +kernel
theorem dX5_personAt_29 : decode cX5_personAt 29 = .ok (.ireturn, 1) := by decide +kernel
theorem dX6_init_0 : decode cX6_init 0 = .ok (.aload_n 0, 1) := by decide +kernel
theorem dX6_init_1 : decode cX6_init 1 = .ok (.invokespecial 1, 3) := by decide +kernel
theorem dX6_init_4 : decode cX6_init 4 = .ok (.aload_n 0, 1) := by decide +kernel
theorem dX6_init_5 : decode cX6_init 5 = .ok (.new 7, 3) := by decide +kernel
theorem dX6_init_8 : decode cX6_init 8 = .ok (.dup, 1) := by decide +kernel
theorem dX6_init_9 : decode cX6_init 9 = .ok (.invokespecial 9, 3) := by decide +kernel
theorem dX6_init_12 : decode cX6_init 12 = .ok (.putfield 10, 3) := by decide +kernel
theorem dX6_init_15 : decode cX6_init 15 = .ok (.aload_n 0, 1) := by decide +kernel
theorem dX6_init_16 : decode cX6_init 16 = .ok (.new 7, 3) := by decide +kernel
theorem dX6_init_19 : decode cX6_init 19 = .ok (.dup, 1) := by decide +kernel
theorem dX6_init_20 : decode cX6_init 20 = .ok (.invokespecial 9, 3) := by decide +kernel
theorem dX6_init_23 : decode cX6_init 23 = .ok (.putfield 16, 3) := by decide +kernel
theorem dX6_init_26 : decode cX6_init 26 = .ok (.aload_n 0, 1) := by decide +kernel
theorem dX6_init_27 : decode cX6_init 27 = .ok (.new 19, 3) := by decide +kernel
theorem dX6_init_30 : decode cX6_init 30 = .ok (.dup, 1) := by decide +kernel
theorem dX6_init_31 : decode cX6_init 31 = .ok (.invokespecial 21, 3) := by decide +kernel
theorem dX6_init_34 : decode cX6_init 34 = .ok (.putfield 22, 3) := by decide +kernel
theorem dX6_init_37 : decode cX6_init 37 = .ok (.aload_n 0, 1) := by decide +kernel
theorem dX6_init_38 : decode cX6_init 38 = .ok (.new 26, 3) := by decide +kernel
theorem dX6_init_41 : decode cX6_init 41 = .ok (.dup, 1) := by decide +kernel
theorem dX6_init_42 : decode cX6_init 42 = .ok (.invokespecial 28, 3) := by decide +kernel
theorem dX6_init_45 : decode cX6_init 45 = .ok (.putfield 29, 3) := by decide +kernel
theorem dX6_init_48 : decode cX6_init 48 = .ok (.aload_n 0, 1) := by decide +kernel
theorem dX6_init_49 : decode cX6_init 49 = .ok (.new 33, 3) := by decide +kernel
theorem dX6_init_52 : decode cX6_init 52 = .ok (.dup, 1) := by decide +kernel
theorem dX6_init_53 : decode cX6_init 53 = .ok (.invokespecial 35, 3) := by decide +kernel
theorem dX6_init_56 : decode cX6_init 56 = .ok (.putfield 36, 3) := by decide +kernel
theorem dX6_init_59 : decode cX6_init 59 = .ok (.aload_n 0, 1) := by decide +kernel
theorem dX6_init_60 : decode cX6_init 60 = .ok (.new 40, 3) := by decide +kernel
theorem dX6_init_63 : decode cX6_init 63 = .ok (.dup, 1) := by decide +kernel
theorem dX6_init_64 : decode cX6_init 64 = .ok (.invokespecial 42, 3) := by decide +kernel
theorem dX6_init_67 : decode cX6_init 67 = .ok (.putfield 43, 3) := by decide +kernel
theorem dX6_init_70 : decode cX6_init 70 = .ok (.return_, 1) := by decide +kernel
theorem dX6_addPerson_0 : decode cX6_addPerson 0 = .ok (.iload_n 1, 1) := by decide +kernel
theorem dX6_addPerson_1 : decode cX6_addPerson 1 = .ok (.iconst 0, 1) := by decide +kernel
theorem dX6_addPerson_2 : decode cX6_addPerson 2 = .ok (.bipush 110, 2) := by decide +kernel
theorem dX6_addPerson_4 : decode cX6_addPerson 4 = .ok (.invokestatic 47, 3) := by decide +kernel
theorem dX6_addPerson_7 : decode cX6_addPerson 7 = .ok (.ifCond .eq 13, 3) := by decide +kernel
theorem dX6_addPerson_10 : decode cX6_addPerson 10 = .ok (.iload_n 2, 1) := by decide +kernel
theorem dX6_addPerson_11 : decode cX6_addPerson 11 = .ok (.iconst 1, 1) := by decide +kernel
theorem dX6_addPerson_12 : decode cX6_addPerson 12 = .ok (.bipush 9, 2) := by decide +kernel
theorem dX6_addPerson_14 : decode cX6_addPerson 14 = .ok (.invokestatic 47, 3) := by decide +kernel
theorem dX6_addPerson_17 : decode cX6_addPerson 17 = .ok (.ifCond .ne 6, 3) := by decide +kernel
theorem dX6_addPerson_20 : decode cX6_addPerson 20 = .ok (.bipush (-2), 2) := by decide +kernel
theorem dX6_addPerson_22 : decode cX6_addPerson 22 = .ok (.ireturn, 1) := by decide +kernel
theorem dX6_addPerson_23 : decode cX6_addPerson 23 = .ok (.aload_n 0, 1) := by decide +kernel
theorem dX6_addPerson_24 : decode cX6_addPerson 24 = .ok (.getfield 10, 3) := by decide +kernel
theorem dX6_addPerson_27 : decode cX6_addPerson 27 = .ok (.invokevirtual 51, 3) := by decide +kernel
theorem dX6_addPerson_30 : decode cX6_addPerson 30 = .ok (.iconst 1, 1) := by decide +kernel
theorem dX6_addPerson_31 : decode cX6_addPerson 31 = .ok (.if_icmp .ge 6, 3) := by decide +kernel
theorem dX6_addPerson_34 : decode cX6_addPerson 34 = .ok (.bipush (-3), 2) := by decide +kernel
theorem dX6_addPerson_36 : decode cX6_addPerson 36 = .ok (.ireturn, 1) := by decide +kernel
theorem dX6_addPerson_37 : decode cX6_addPerson 37 = .ok (.aload_n 0, 1) := by decide +kernel
theorem dX6_addPerson_38 : decode cX6_addPerson 38 = .ok (.getfield 22, 3) := by decide +kernel
theorem dX6_addPerson_41 : decode cX6_addPerson 41 = .ok (.aload_n 0, 1) := by decide +kernel
theorem dX6_addPerson_42 : decode cX6_addPerson 42 = .ok (.getfield 10, 3) := by decide +kernel
theorem dX6_addPerson_45 : decode cX6_addPerson 45 = .ok (.invokevirtual 55, 3) := by decide +kernel
theorem dX6_addPerson_48 : decode cX6_addPerson 48 = .ok (.aload_n 0, 1) := by decide +kernel
theorem dX6_addPerson_49 : decode cX6_addPerson 49 = .ok (.getfield 10, 3) := by decide +kernel
theorem dX6_addPerson_52 : decode cX6_addPerson 52 = .ok (.iload_n 1, 1) := by decide +kernel
theorem dX6_addPerson_53 : decode cX6_addPerson 53 = .ok (.iload_n 2, 1) := by decide +kernel
theorem dX6_addPerson_54 : decode cX6_addPerson 54 = .ok (.invokevirtual 59, 3) := by decide +kernel
theorem dX6_addPerson_57 : decode cX6_addPerson 57 = .ok (.ireturn, 1) := by decide +kernel
theorem dX6_write_0 : decode cX6_write 0 = .ok (.aload_n 0, 1) := by decide +kernel
theorem dX6_write_1 : decode cX6_write 1 = .ok (.getfield 10, 3) := by decide +kernel
theorem dX6_write_4 : decode cX6_write 4 = .ok (.iload_n 1, 1) := by decide +kernel
theorem dX6_write_5 : decode cX6_write 5 = .ok (.invokevirtual 84, 3) := by decide +kernel
theorem dX6_write_8 : decode cX6_write 8 = .ok (.astore 4, 2) := by decide +kernel
theorem dX6_write_10 : decode cX6_write 10 = .ok (.aload 4, 2) := by decide +kernel
theorem dX6_write_12 : decode cX6_write 12 = .ok (.ifnull 10, 3) := by decide +kernel
theorem dX6_write_15 : decode cX6_write 15 = .ok (.iload_n 2, 1) := by decide +kernel
theorem dX6_write_16 : decode cX6_write 16 = .ok (.invokestatic 87, 3) := by decide +kernel
theorem dX6_write_19 : decode cX6_write 19 = .ok (.ifCond .ne 5, 3) := by decide +kernel
theorem dX6_write_22 : decode cX6_write 22 = .ok (.iconst (-1), 1) := by decide +kernel
theorem dX6_write_23 : decode cX6_write 23 = .ok (.ireturn, 1) := by decide +kernel
theorem dX6_write_24 : decode cX6_write 24 = .ok (.iload_n 3, 1) := by decide +kernel
theorem dX6_write_25 : decode cX6_write 25 = .ok (.iconst 1, 1) := by decide +kernel
theorem dX6_write_26 : decode cX6_write 26 = .ok (.bipush 9, 2) := by decide +kernel
theorem dX6_write_28 : decode cX6_write 28 = .ok (.invokestatic 47, 3) := by decide +kernel
theorem dX6_write_31 : decode cX6_write 31 = .ok (.ifCond .ne 6, 3) := by decide +kernel
theorem dX6_write_34 : decode cX6_write 34 = .ok (.bipush (-2), 2) := by decide +kernel
theorem dX6_write_36 : decode cX6_write 36 = .ok (.ireturn, 1) := by decide +kernel
theorem dX6_write_37 : decode cX6_write 37 = .ok (.aload 4, 2) := by decide +kernel
theorem dX6_write_39 : decode cX6_write 39 = .ok (.iconst 3, 1) := by decide +kernel
theorem dX6_write_40 : decode cX6_write 40 = .ok (.invokevirtual 90, 3) := by decide +kernel
theorem dX6_write_43 : decode cX6_write 43 = .ok (.ifCond .eq 6, 3) := by decide +kernel
theorem dX6_write_46 : decode cX6_write 46 = .ok (.bipush (-4), 2) := by decide +kernel
theorem dX6_write_48 : decode cX6_write 48 = .ok (.ireturn, 1) := by decide +kernel
theorem dX6_write_49 : decode cX6_write 49 = .ok (.aload 4, 2) := by decide +kernel
theorem dX6_write_51 : decode cX6_write 51 = .ok (.invokevirtual 95, 3) := by decide +kernel
theorem dX6_write_54 : decode cX6_write 54 = .ok (.bipush 8, 2) := by decide +kernel
theorem dX6_write_56 : decode cX6_write 56 = .ok (.if_icmp .ge 14, 3) := by decide +kernel
theorem dX6_write_59 : decode cX6_write 59 = .ok (.aload_n 0, 1) := by decide +kernel
theorem dX6_write_60 : decode cX6_write 60 = .ok (.getfield 10, 3) := by decide +kernel
theorem dX6_write_63 : decode cX6_write 63 = .ok (.invokevirtual 98, 3) := by decide +kernel
theorem dX6_write_66 : decode cX6_write 66 = .ok (.iload_n 3, 1) := by decide +kernel
theorem dX6_write_67 : decode cX6_write 67 = .ok (.if_icmp .ge 6, 3) := by decide +kernel
theorem dX6_write_70 : decode cX6_write 70 = .ok (.bipush (-3), 2) := by decide +kernel
theorem dX6_write_72 : decode cX6_write 72 = .ok (.ireturn, 1) := by decide +kernel
theorem dX6_write_73 : decode cX6_write 73 = .ok (.aload_n 0, 1) := by decide +kernel
theorem dX6_write_74 : decode cX6_write 74 = .ok (.getfield 22, 3) := by decide +kernel
theorem dX6_write_77 : decode cX6_write 77 = .ok (.aload_n 0, 1) := by decide +kernel
theorem dX6_write_78 : decode cX6_write 78 = .ok (.getfield 10, 3) := by decide +kernel
theorem dX6_write_81 : decode cX6_write 81 = .ok (.invokevirtual 55, 3) := by decide +kernel
theorem dX6_write_84 : decode cX6_write 84 = .ok (.aload_n 0, 1) := by decide +kernel
theorem dX6_write_85 : decode cX6_write 85 = .ok (.getfield 10, 3) := by decide +kernel
theorem dX6_write_88 : decode cX6_write 88 = .ok (.iload_n 3, 1) := by decide +kernel
theorem dX6_write_89 : decode cX6_write 89 = .ok (.invokevirtual 101, 3) := by decide +kernel
theorem dX6_write_92 : decode cX6_write 92 = .ok (.aload 4, 2) := by decide +kernel
theorem dX6_write_94 : decode cX6_write 94 = .ok (.iload_n 2, 1) := by decide +kernel
theorem dX6_write_95 : decode cX6_write 95 = .ok (.iload_n 3, 1) := by decide +kernel
theorem dX6_write_96 : decode cX6_write 96 = .ok (.aload_n 0, 1) := by decide +kernel
theorem dX6_write_97 : decode cX6_write 97 = .ok (.getfield 10, 3) := by decide +kernel
theorem dX6_write_100 : decode cX6_write 100 = .ok (.invokevirtual 63, 3) := by decide +kernel
theorem dX6_write_103 : decode cX6_write 103 = .ok (.invokevirtual 105, 3) := by decide +kernel
theorem dX6_write_106 : decode cX6_write 106 = .ok (.ireturn, 1) := by decide +kernel
theorem dX6_check_0 : decode cX6_check 0 = .ok (.aload_n 0, 1) := by decide +kernel
theorem dX6_check_1 : decode cX6_check 1 = .ok (.getfield 10, 3) := by decide +kernel
theorem dX6_check_4 : decode cX6_check 4 = .ok (.iload_n 1, 1) := by decide +kernel
theorem dX6_check_5 : decode cX6_check 5 = .ok (.invokevirtual 84, 3) := by decide +kernel
theorem dX6_check_8 : decode cX6_check 8 = .ok (.astore_n 3, 1) := by decide +kernel
theorem dX6_check_9 : decode cX6_check 9 = .ok (.aload_n 3, 1) := by decide +kernel
theorem dX6_check_10 : decode cX6_check 10 = .ok (.ifnull 11, 3) := by decide +kernel
theorem dX6_check_13 : decode cX6_check 13 = .ok (.aload_n 3, 1) := by decide +kernel
theorem dX6_check_14 : decode cX6_check 14 = .ok (.iload_n 2, 1) := by decide +kernel
theorem dX6_check_15 : decode cX6_check 15 = .ok (.invokevirtual 109, 3) := by decide +kernel
theorem dX6_check_18 : decode cX6_check 18 = .ok (.ifCond .ne 5, 3) := by decide +kernel
theorem dX6_check_21 : decode cX6_check 21 = .ok (.iconst (-1), 1) := by decide +kernel
theorem dX6_check_22 : decode cX6_check 22 = .ok (.ireturn, 1) := by decide +kernel
theorem dX6_check_23 : decode cX6_check 23 = .ok (.aload_n 3, 1) := by decide +kernel
theorem dX6_check_24 : decode cX6_check 24 = .ok (.iconst 3, 1) := by decide +kernel
theorem dX6_check_25 : decode cX6_check 25 = .ok (.invokevirtual 90, 3) := by decide +kernel
theorem dX6_check_28 : decode cX6_check 28 = .ok (.ifCond .eq 6, 3) := by decide +kernel
theorem dX6_check_31 : decode cX6_check 31 = .ok (.bipush (-4), 2) := by decide +kernel
theorem dX6_check_33 : decode cX6_check 33 = .ok (.ireturn, 1) := by decide +kernel
theorem dX6_check_34 : decode cX6_check 34 = .ok (.aload_n 0, 1) := by decide +kernel
theorem dX6_check_35 : decode cX6_check 35 = .ok (.getfield 10, 3) := by decide +kernel
theorem dX6_check_38 : decode cX6_check 38 = .ok (.invokevirtual 98, 3) := by decide +kernel
theorem dX6_check_41 : decode cX6_check 41 = .ok (.iconst 1, 1) := by decide +kernel
theorem dX6_check_42 : decode cX6_check 42 = .ok (.if_icmp .ge 6, 3) := by decide +kernel
theorem dX6_check_45 : decode cX6_check 45 = .ok (.bipush (-3), 2) := by decide +kernel
theorem dX6_check_47 : decode cX6_check 47 = .ok (.ireturn, 1) := by decide +kernel
theorem dX6_check_48 : decode cX6_check 48 = .ok (.aload_n 3, 1) := by decide +kernel
theorem dX6_check_49 : decode cX6_check 49 = .ok (.iload_n 2, 1) := by decide +kernel
theorem dX6_check_50 : decode cX6_check 50 = .ok (.invokevirtual 112, 3) := by decide +kernel
theorem dX6_check_53 : decode cX6_check 53 = .ok (.aload_n 0, 1) := by decide +kernel
theorem dX6_check_54 : decode cX6_check 54 = .ok (.getfield 10, 3) := by decide +kernel
theorem dX6_check_57 : decode cX6_check 57 = .ok (.invokevirtual 63, 3) := by decide +kernel
theorem dX6_check_60 : decode cX6_check 60 = .ok (.if_icmp .ne 6, 3) := by decide +kernel
theorem dX6_check_63 : decode cX6_check 63 = .ok (.bipush (-5), 2) := by decide +kernel
theorem dX6_check_65 : decode cX6_check 65 = .ok (.ireturn, 1) := by decide +kernel
theorem dX6_check_66 : decode cX6_check 66 = .ok (.aload_n 0, 1) := by decide +kernel
theorem dX6_check_67 : decode cX6_check 67 = .ok (.getfield 22, 3) := by decide +kernel
theorem dX6_check_70 : decode cX6_check 70 = .ok (.aload_n 0, 1) := by decide +kernel
theorem dX6_check_71 : decode cX6_check 71 = .ok (.getfield 10, 3) := by decide +kernel
theorem dX6_check_74 : decode cX6_check 74 = .ok (.invokevirtual 55, 3) := by decide +kernel
theorem dX6_check_77 : decode cX6_check 77 = .ok (.aload_n 0, 1) := by decide +kernel
theorem dX6_check_78 : decode cX6_check 78 = .ok (.getfield 10, 3) := by decide +kernel
theorem dX6_check_81 : decode cX6_check 81 = .ok (.aload_n 3, 1) := by decide +kernel
theorem dX6_check_82 : decode cX6_check 82 = .ok (.iload_n 2, 1) := by decide +kernel
theorem dX6_check_83 : decode cX6_check 83 = .ok (.invokevirtual 116, 3) := by decide +kernel
theorem dX6_check_86 : decode cX6_check 86 = .ok (.aload_n 0, 1) := by decide +kernel
theorem dX6_check_87 : decode cX6_check 87 = .ok (.getfield 10, 3) := by decide +kernel
theorem dX6_check_90 : decode cX6_check 90 = .ok (.invokevirtual 98, 3) := by decide +kernel
theorem dX6_check_93 : decode cX6_check 93 = .ok (.ireturn, 1) := by decide +kernel
theorem dX6_strike_0 : decode cX6_strike 0 = .ok (.aload_n 0, 1) := by decide +kernel
theorem dX6_strike_1 : decode cX6_strike 1 = .ok (.getfield 10, 3) := by decide +kernel
theorem dX6_strike_4 : decode cX6_strike 4 = .ok (.iload_n 1, 1) := by decide +kernel
theorem dX6_strike_5 : decode cX6_strike 5 = .ok (.invokevirtual 84, 3) := by decide +kernel
theorem dX6_strike_8 : decode cX6_strike 8 = .ok (.astore_n 3, 1) := by decide +kernel
theorem dX6_strike_9 : decode cX6_strike 9 = .ok (.aload_n 3, 1) := by decide +kernel
theorem dX6_strike_10 : decode cX6_strike 10 = .ok (.ifnull 11, 3) := by decide +kernel
theorem dX6_strike_13 : decode cX6_strike 13 = .ok (.aload_n 3, 1) := by decide +kernel
theorem dX6_strike_14 : decode cX6_strike 14 = .ok (.iload_n 2, 1) := by decide +kernel
theorem dX6_strike_15 : decode cX6_strike 15 = .ok (.invokevirtual 109, 3) := by decide +kernel
theorem dX6_strike_18 : decode cX6_strike 18 = .ok (.ifCond .ne 5, 3) := by decide +kernel
theorem dX6_strike_21 : decode cX6_strike 21 = .ok (.iconst (-1), 1) := by decide +kernel
theorem dX6_strike_22 : decode cX6_strike 22 = .ok (.ireturn, 1) := by decide +kernel
theorem dX6_strike_23 : decode cX6_strike 23 = .ok (.aload_n 3, 1) := by decide +kernel
theorem dX6_strike_24 : decode cX6_strike 24 = .ok (.iconst 3, 1) := by decide +kernel
theorem dX6_strike_25 : decode cX6_strike 25 = .ok (.invokevirtual 90, 3) := by decide +kernel
theorem dX6_strike_28 : decode cX6_strike 28 = .ok (.ifCond .eq 6, 3) := by decide +kernel
theorem dX6_strike_31 : decode cX6_strike 31 = .ok (.bipush (-4), 2) := by decide +kernel
theorem dX6_strike_33 : decode cX6_strike 33 = .ok (.ireturn, 1) := by decide +kernel
theorem dX6_strike_34 : decode cX6_strike 34 = .ok (.aload_n 0, 1) := by decide +kernel
theorem dX6_strike_35 : decode cX6_strike 35 = .ok (.getfield 22, 3) := by decide +kernel
theorem dX6_strike_38 : decode cX6_strike 38 = .ok (.aload_n 0, 1) := by decide +kernel
theorem dX6_strike_39 : decode cX6_strike 39 = .ok (.getfield 10, 3) := by decide +kernel
theorem dX6_strike_42 : decode cX6_strike 42 = .ok (.invokevirtual 55, 3) := by decide +kernel
theorem dX6_strike_45 : decode cX6_strike 45 = .ok (.aload_n 3, 1) := by decide +kernel
theorem dX6_strike_46 : decode cX6_strike 46 = .ok (.iload_n 2, 1) := by decide +kernel
theorem dX6_strike_47 : decode cX6_strike 47 = .ok (.invokevirtual 120, 3) := by decide +kernel
theorem dX6_strike_50 : decode cX6_strike 50 = .ok (.aload_n 3, 1) := by decide +kernel
theorem dX6_strike_51 : decode cX6_strike 51 = .ok (.invokevirtual 95, 3) := by decide +kernel
theorem dX6_strike_54 : decode cX6_strike 54 = .ok (.ireturn, 1) := by decide +kernel
theorem dX6_checkUrgent_0 : decode cX6_checkUrgent 0 = .ok (.aload_n 0, 1) := by decide +kernel
theorem dX6_checkUrgent_1 : decode cX6_checkUrgent 1 = .ok (.getfield 10, 3) := by decide +kernel
theorem dX6_checkUrgent_4 : decode cX6_checkUrgent 4 = .ok (.invokevirtual 123, 3) := by decide +kernel
theorem dX6_checkUrgent_7 : decode cX6_checkUrgent 7 = .ok (.astore_n 1, 1) := by decide +kernel
theorem dX6_checkUrgent_8 : decode cX6_checkUrgent 8 = .ok (.aload_n 1, 1) := by decide +kernel
theorem dX6_checkUrgent_9 : decode cX6_checkUrgent 9 = .ok (.ifnonnull 6, 3) := by decide +kernel
theorem dX6_checkUrgent_12 : decode cX6_checkUrgent 12 = .ok (.bipush (-5), 2) := by decide +kernel
theorem dX6_checkUrgent_14 : decode cX6_checkUrgent 14 = .ok (.ireturn, 1) := by decide +kernel
theorem dX6_checkUrgent_15 : decode cX6_checkUrgent 15 = .ok (.aload_n 0, 1) := by decide +kernel
theorem dX6_checkUrgent_16 : decode cX6_checkUrgent 16 = .ok (.getfield 22, 3) := by decide +kernel
theorem dX6_checkUrgent_19 : decode cX6_checkUrgent 19 = .ok (.aload_n 0, 1) := by decide +kernel
theorem dX6_checkUrgent_20 : decode cX6_checkUrgent 20 = .ok (.getfield 10, 3) := by decide +kernel
theorem dX6_checkUrgent_23 : decode cX6_checkUrgent 23 = .ok (.invokevirtual 55, 3) := by decide +kernel
theorem dX6_checkUrgent_26 : decode cX6_checkUrgent 26 = .ok (.iconst 0, 1) := by decide +kernel
theorem dX6_checkUrgent_27 : decode cX6_checkUrgent 27 = .ok (.istore_n 2, 1) := by decide +kernel
theorem dX6_checkUrgent_28 : decode cX6_checkUrgent 28 = .ok (.aload_n 1, 1) := by decide +kernel
theorem dX6_checkUrgent_29 : decode cX6_checkUrgent 29 = .ok (.ifnull 39, 3) := by decide +kernel
theorem dX6_checkUrgent_32 : decode cX6_checkUrgent 32 = .ok (.iload_n 2, 1) := by decide +kernel
theorem dX6_checkUrgent_33 : decode cX6_checkUrgent 33 = .ok (.bipush 24, 2) := by decide +kernel
theorem dX6_checkUrgent_35 : decode cX6_checkUrgent 35 = .ok (.if_icmp .ge 33, 3) := by decide +kernel
theorem dX6_checkUrgent_38 : decode cX6_checkUrgent 38 = .ok (.aload_n 0, 1) := by decide +kernel
theorem dX6_checkUrgent_39 : decode cX6_checkUrgent 39 = .ok (.getfield 10, 3) := by decide +kernel
theorem dX6_checkUrgent_42 : decode cX6_checkUrgent 42 = .ok (.aload_n 1, 1) := by decide +kernel
theorem dX6_checkUrgent_43 : decode cX6_checkUrgent 43 = .ok (.aload_n 0, 1) := by decide +kernel
theorem dX6_checkUrgent_44 : decode cX6_checkUrgent 44 = .ok (.getfield 10, 3) := by decide +kernel
theorem dX6_checkUrgent_47 : decode cX6_checkUrgent 47 = .ok (.aload_n 1, 1) := by decide +kernel
theorem dX6_checkUrgent_48 : decode cX6_checkUrgent 48 = .ok (.invokevirtual 127, 3) := by decide +kernel
theorem dX6_checkUrgent_51 : decode cX6_checkUrgent 51 = .ok (.invokevirtual 116, 3) := by decide +kernel
theorem dX6_checkUrgent_54 : decode cX6_checkUrgent 54 = .ok (.iinc 2 1, 3) := by decide +kernel
theorem dX6_checkUrgent_57 : decode cX6_checkUrgent 57 = .ok (.aload_n 0, 1) := by decide +kernel
theorem dX6_checkUrgent_58 : decode cX6_checkUrgent 58 = .ok (.getfield 10, 3) := by decide +kernel
theorem dX6_checkUrgent_61 : decode cX6_checkUrgent 61 = .ok (.invokevirtual 123, 3) := by decide +kernel
theorem dX6_checkUrgent_64 : decode cX6_checkUrgent 64 = .ok (.astore_n 1, 1) := by decide +kernel
theorem dX6_checkUrgent_65 : decode cX6_checkUrgent 65 = .ok (.goto (-37), 3) := by decide +kernel
theorem dX6_checkUrgent_68 : decode cX6_checkUrgent 68 = .ok (.iload_n 2, 1) := by decide +kernel
theorem dX6_checkUrgent_69 : decode cX6_checkUrgent 69 = .ok (.ireturn, 1) := by decide +kernel
theorem dX6_trust_0 : decode cX6_trust 0 = .ok (.iload_n 1, 1) := by decide +kernel
theorem dX6_trust_1 : decode cX6_trust 1 = .ok (.invokestatic 87, 3) := by decide +kernel
theorem dX6_trust_4 : decode cX6_trust 4 = .ok (.ifCond .ne 5, 3) := by decide +kernel
theorem dX6_trust_7 : decode cX6_trust 7 = .ok (.iconst (-1), 1) := by decide +kernel
theorem dX6_trust_8 : decode cX6_trust 8 = .ok (.ireturn, 1) := by decide +kernel
theorem dX6_trust_9 : decode cX6_trust 9 = .ok (.iload_n 2, 1) := by decide +kernel
theorem dX6_trust_10 : decode cX6_trust 10 = .ok (.iconst 0, 1) := by decide +kernel
theorem dX6_trust_11 : decode cX6_trust 11 = .ok (.bipush 100, 2) := by decide +kernel
theorem dX6_trust_13 : decode cX6_trust 13 = .ok (.invokestatic 47, 3) := by decide +kernel
theorem dX6_trust_16 : decode cX6_trust 16 = .ok (.ifCond .ne 6, 3) := by decide +kernel
theorem dX6_trust_19 : decode cX6_trust 19 = .ok (.bipush (-2), 2) := by decide +kernel
theorem dX6_trust_21 : decode cX6_trust 21 = .ok (.ireturn, 1) := by decide +kernel
theorem dX6_trust_22 : decode cX6_trust 22 = .ok (.aload_n 0, 1) := by decide +kernel
theorem dX6_trust_23 : decode cX6_trust 23 = .ok (.getfield 10, 3) := by decide +kernel
theorem dX6_trust_26 : decode cX6_trust 26 = .ok (.iload_n 1, 1) := by decide +kernel
theorem dX6_trust_27 : decode cX6_trust 27 = .ok (.invokevirtual 131, 3) := by decide +kernel
theorem dX6_trust_30 : decode cX6_trust 30 = .ok (.istore_n 3, 1) := by decide +kernel
theorem dX6_trust_31 : decode cX6_trust 31 = .ok (.iload_n 3, 1) := by decide +kernel
theorem dX6_trust_32 : decode cX6_trust 32 = .ok (.iload_n 2, 1) := by decide +kernel
theorem dX6_trust_33 : decode cX6_trust 33 = .ok (.if_icmp .ne 6, 3) := by decide +kernel
theorem dX6_trust_36 : decode cX6_trust 36 = .ok (.bipush (-5), 2) := by decide +kernel
theorem dX6_trust_38 : decode cX6_trust 38 = .ok (.ireturn, 1) := by decide +kernel
theorem dX6_trust_39 : decode cX6_trust 39 = .ok (.aload_n 0, 1) := by decide +kernel
theorem dX6_trust_40 : decode cX6_trust 40 = .ok (.getfield 22, 3) := by decide +kernel
theorem dX6_trust_43 : decode cX6_trust 43 = .ok (.aload_n 0, 1) := by decide +kernel
theorem dX6_trust_44 : decode cX6_trust 44 = .ok (.getfield 10, 3) := by decide +kernel
theorem dX6_trust_47 : decode cX6_trust 47 = .ok (.invokevirtual 55, 3) := by decide +kernel
theorem dX6_trust_50 : decode cX6_trust 50 = .ok (.aload_n 0, 1) := by decide +kernel
theorem dX6_trust_51 : decode cX6_trust 51 = .ok (.getfield 10, 3) := by decide +kernel
theorem dX6_trust_54 : decode cX6_trust 54 = .ok (.iload_n 1, 1) := by decide +kernel
theorem dX6_trust_55 : decode cX6_trust 55 = .ok (.iload_n 2, 1) := by decide +kernel
theorem dX6_trust_56 : decode cX6_trust 56 = .ok (.invokevirtual 134, 3) := by decide +kernel
theorem dX6_trust_59 : decode cX6_trust 59 = .ok (.iload_n 3, 1) := by decide +kernel
theorem dX6_trust_60 : decode cX6_trust 60 = .ok (.ireturn, 1) := by decide +kernel
theorem dX6_set_0 : decode cX6_set 0 = .ok (.iload_n 1, 1) := by decide +kernel
theorem dX6_set_1 : decode cX6_set 1 = .ok (.invokestatic 138, 3) := by decide +kernel
theorem dX6_set_4 : decode cX6_set 4 = .ok (.ifCond .eq 20, 3) := by decide +kernel
theorem dX6_set_7 : decode cX6_set 7 = .ok (.iload_n 2, 1) := by decide +kernel
theorem dX6_set_8 : decode cX6_set 8 = .ok (.getstatic 141, 3) := by decide +kernel
theorem dX6_set_11 : decode cX6_set 11 = .ok (.iload_n 1, 1) := by decide +kernel
theorem dX6_set_12 : decode cX6_set 12 = .ok (.iaload, 1) := by decide +kernel
theorem dX6_set_13 : decode cX6_set 13 = .ok (.getstatic 145, 3) := by decide +kernel
theorem dX6_set_16 : decode cX6_set 16 = .ok (.iload_n 1, 1) := by decide +kernel
theorem dX6_set_17 : decode cX6_set 17 = .ok (.iaload, 1) := by decide +kernel
theorem dX6_set_18 : decode cX6_set 18 = .ok (.invokestatic 47, 3) := by decide +kernel
theorem dX6_set_21 : decode cX6_set 21 = .ok (.ifCond .ne 6, 3) := by decide +kernel
theorem dX6_set_24 : decode cX6_set 24 = .ok (.bipush (-2), 2) := by decide +kernel
theorem dX6_set_26 : decode cX6_set 26 = .ok (.ireturn, 1) := by decide +kernel
theorem dX6_set_27 : decode cX6_set 27 = .ok (.aload_n 0, 1) := by decide +kernel
theorem dX6_set_28 : decode cX6_set 28 = .ok (.getfield 10, 3) := by decide +kernel
theorem dX6_set_31 : decode cX6_set 31 = .ok (.iload_n 1, 1) := by decide +kernel
theorem dX6_set_32 : decode cX6_set 32 = .ok (.invokevirtual 148, 3) := by decide +kernel
theorem dX6_set_35 : decode cX6_set 35 = .ok (.istore_n 3, 1) := by decide +kernel
theorem dX6_set_36 : decode cX6_set 36 = .ok (.iload_n 3, 1) := by decide +kernel
theorem dX6_set_37 : decode cX6_set 37 = .ok (.iload_n 2, 1) := by decide +kernel
theorem dX6_set_38 : decode cX6_set 38 = .ok (.if_icmp .ne 6, 3) := by decide +kernel
theorem dX6_set_41 : decode cX6_set 41 = .ok (.bipush (-5), 2) := by decide +kernel
theorem dX6_set_43 : decode cX6_set 43 = .ok (.ireturn, 1) := by decide +kernel
theorem dX6_set_44 : decode cX6_set 44 = .ok (.aload_n 0, 1) := by decide +kernel
theorem dX6_set_45 : decode cX6_set 45 = .ok (.getfield 22, 3) := by decide +kernel
theorem dX6_set_48 : decode cX6_set 48 = .ok (.aload_n 0, 1) := by decide +kernel
theorem dX6_set_49 : decode cX6_set 49 = .ok (.getfield 10, 3) := by decide +kernel
theorem dX6_set_52 : decode cX6_set 52 = .ok (.invokevirtual 55, 3) := by decide +kernel
theorem dX6_set_55 : decode cX6_set 55 = .ok (.aload_n 0, 1) := by decide +kernel
theorem dX6_set_56 : decode cX6_set 56 = .ok (.getfield 10, 3) := by decide +kernel
theorem dX6_set_59 : decode cX6_set 59 = .ok (.iload_n 1, 1) := by decide +kernel
theorem dX6_set_60 : decode cX6_set 60 = .ok (.iload_n 2, 1) := by decide +kernel
theorem dX6_set_61 : decode cX6_set 61 = .ok (.invokevirtual 151, 3) := by decide +kernel
theorem dX6_set_64 : decode cX6_set 64 = .ok (.iload_n 3, 1) := by decide +kernel
theorem dX6_set_65 : decode cX6_set 65 = .ok (.ireturn, 1) := by decide +kernel
theorem dX6_tellDeath_0 : decode cX6_tellDeath 0 = .ok (.aload_n 0, 1) := by decide +kernel
theorem dX6_tellDeath_1 : decode cX6_tellDeath 1 = .ok (.getfield 10, 3) := by decide +kernel
theorem dX6_tellDeath_4 : decode cX6_tellDeath 4 = .ok (.iload_n 1, 1) := by decide +kernel
theorem dX6_tellDeath_5 : decode cX6_tellDeath 5 = .ok (.invokevirtual 84, 3) := by decide +kernel
theorem dX6_tellDeath_8 : decode cX6_tellDeath 8 = .ok (.astore_n 3, 1) := by decide +kernel
theorem dX6_tellDeath_9 : decode cX6_tellDeath 9 = .ok (.aload_n 3, 1) := by decide +kernel
theorem dX6_tellDeath_10 : decode cX6_tellDeath 10 = .ok (.ifnull 10, 3) := by decide +kernel
theorem dX6_tellDeath_13 : decode cX6_tellDeath 13 = .ok (.iload_n 2, 1) := by decide +kernel
theorem dX6_tellDeath_14 : decode cX6_tellDeath 14 = .ok (.invokestatic 87, 3) := by decide +kernel
theorem dX6_tellDeath_17 : decode cX6_tellDeath 17 = .ok (.ifCond .ne 5, 3) := by decide +kernel
theorem dX6_tellDeath_20 : decode cX6_tellDeath 20 = .ok (.iconst (-1), 1) := by decide +kernel
theorem dX6_tellDeath_21 : decode cX6_tellDeath 21 = .ok (.ireturn, 1) := by decide +kernel
theorem dX6_tellDeath_22 : decode cX6_tellDeath 22 = .ok (.aload_n 3, 1) := by decide +kernel
theorem dX6_tellDeath_23 : decode cX6_tellDeath 23 = .ok (.iconst 2, 1) := by decide +kernel
theorem dX6_tellDeath_24 : decode cX6_tellDeath 24 = .ok (.invokevirtual 90, 3) := by decide +kernel
theorem dX6_tellDeath_27 : decode cX6_tellDeath 27 = .ok (.ifCond .ne 11, 3) := by decide +kernel
theorem dX6_tellDeath_30 : decode cX6_tellDeath 30 = .ok (.aload_n 3, 1) := by decide +kernel
theorem dX6_tellDeath_31 : decode cX6_tellDeath 31 = .ok (.iconst 3, 1) := by decide +kernel
theorem dX6_tellDeath_32 : decode cX6_tellDeath 32 = .ok (.invokevirtual 90, 3) := by decide +kernel
theorem dX6_tellDeath_35 : decode cX6_tellDeath 35 = .ok (.ifCond .eq 6, 3) := by decide +kernel
theorem dX6_tellDeath_38 : decode cX6_tellDeath 38 = .ok (.bipush (-4), 2) := by decide +kernel
theorem dX6_tellDeath_40 : decode cX6_tellDeath 40 = .ok (.ireturn, 1) := by decide +kernel
theorem dX6_tellDeath_41 : decode cX6_tellDeath 41 = .ok (.aload_n 3, 1) := by decide +kernel
theorem dX6_tellDeath_42 : decode cX6_tellDeath 42 = .ok (.iconst 1, 1) := by decide +kernel
theorem dX6_tellDeath_43 : decode cX6_tellDeath 43 = .ok (.invokevirtual 90, 3) := by decide +kernel
theorem dX6_tellDeath_46 : decode cX6_tellDeath 46 = .ok (.istore 4, 2) := by decide +kernel
theorem dX6_tellDeath_48 : decode cX6_tellDeath 48 = .ok (.iload 4, 2) := by decide +kernel
theorem dX6_tellDeath_50 : decode cX6_tellDeath 50 = .ok (.ifCond .eq 14, 3) := by decide +kernel
theorem dX6_tellDeath_53 : decode cX6_tellDeath 53 = .ok (.aload_n 3, 1) := by decide +kernel
theorem dX6_tellDeath_54 : decode cX6_tellDeath 54 = .ok (.invokevirtual 154, 3) := by decide +kernel
theorem dX6_tellDeath_57 : decode cX6_tellDeath 57 = .ok (.iload_n 2, 1) := by decide +kernel
theorem dX6_tellDeath_58 : decode cX6_tellDeath 58 = .ok (.if_icmp .ne 6, 3) := by decide +kernel
theorem dX6_tellDeath_61 : decode cX6_tellDeath 61 = .ok (.bipush (-5), 2) := by decide +kernel
theorem dX6_tellDeath_63 : decode cX6_tellDeath 63 = .ok (.ireturn, 1) := by decide +kernel
theorem dX6_tellDeath_64 : decode cX6_tellDeath 64 = .ok (.aload_n 0, 1) := by decide +kernel
theorem dX6_tellDeath_65 : decode cX6_tellDeath 65 = .ok (.getfield 22, 3) := by decide +kernel
theorem dX6_tellDeath_68 : decode cX6_tellDeath 68 = .ok (.aload_n 0, 1) := by decide +kernel
theorem dX6_tellDeath_69 : decode cX6_tellDeath 69 = .ok (.getfield 10, 3) := by decide +kernel
theorem dX6_tellDeath_72 : decode cX6_tellDeath 72 = .ok (.invokevirtual 55, 3) := by decide +kernel
theorem dX6_tellDeath_75 : decode cX6_tellDeath 75 = .ok (.iload 4, 2) := by decide +kernel
theorem dX6_tellDeath_77 : decode cX6_tellDeath 77 = .ok (.ifCond .eq 16, 3) := by decide +kernel
theorem dX6_tellDeath_80 : decode cX6_tellDeath 80 = .ok (.aload_n 3, 1) := by decide +kernel
theorem dX6_tellDeath_81 : decode cX6_tellDeath 81 = .ok (.aload_n 0, 1) := by decide +kernel
theorem dX6_tellDeath_82 : decode cX6_tellDeath 82 = .ok (.getfield 10, 3) := by decide +kernel
theorem dX6_tellDeath_85 : decode cX6_tellDeath 85 = .ok (.invokevirtual 63, 3) := by decide +kernel
theorem dX6_tellDeath_88 : decode cX6_tellDeath 88 = .ok (.invokevirtual 157, 3) := by decide +kernel
theorem dX6_tellDeath_91 : decode cX6_tellDeath 91 = .ok (.iconst 1, 1) := by decide +kernel
theorem dX6_tellDeath_92 : decode cX6_tellDeath 92 = .ok (.ireturn, 1) := by decide +kernel
theorem dX6_tellDeath_93 : decode cX6_tellDeath 93 = .ok (.aload_n 3, 1) := by decide +kernel
theorem dX6_tellDeath_94 : decode cX6_tellDeath 94 = .ok (.iload_n 2, 1) := by decide +kernel
theorem dX6_tellDeath_95 : decode cX6_tellDeath 95 = .ok (.aload_n 0, 1) := by decide +kernel
theorem dX6_tellDeath_96 : decode cX6_tellDeath 96 = .ok (.getfield 10, 3) := by decide +kernel
theorem dX6_tellDeath_99 : decode cX6_tellDeath 99 = .ok (.invokevirtual 63, 3) := by decide +kernel
theorem dX6_tellDeath_102 : decode cX6_tellDeath 102 = .ok (.invokevirtual 160, 3) := by decide +kernel
theorem dX6_tellDeath_105 : decode cX6_tellDeath 105 = .ok (.iconst 0, 1) := by decide +kernel
theorem dX6_tellDeath_106 : decode cX6_tellDeath 106 = .ok (.ireturn, 1) := by decide +kernel
theorem dX6_decide_0 : decode cX6_decide 0 = .ok (.aload_n 0, 1) := by decide +kernel
theorem dX6_decide_1 : decode cX6_decide 1 = .ok (.getfield 10, 3) := by decide +kernel
theorem dX6_decide_4 : decode cX6_decide 4 = .ok (.iload_n 1, 1) := by decide +kernel
theorem dX6_decide_5 : decode cX6_decide 5 = .ok (.invokevirtual 84, 3) := by decide +kernel
theorem dX6_decide_8 : decode cX6_decide 8 = .ok (.astore_n 3, 1) := by decide +kernel
theorem dX6_decide_9 : decode cX6_decide 9 = .ok (.aload_n 3, 1) := by decide +kernel
theorem dX6_decide_10 : decode cX6_decide 10 = .ok (.ifnonnull 5, 3) := by decide +kernel
theorem dX6_decide_13 : decode cX6_decide 13 = .ok (.iconst (-1), 1) := by decide +kernel
theorem dX6_decide_14 : decode cX6_decide 14 = .ok (.ireturn, 1) := by decide +kernel
theorem dX6_decide_15 : decode cX6_decide 15 = .ok (.aload_n 3, 1) := by decide +kernel
theorem dX6_decide_16 : decode cX6_decide 16 = .ok (.iconst 1, 1) := by decide +kernel
theorem dX6_decide_17 : decode cX6_decide 17 = .ok (.invokevirtual 90, 3) := by decide +kernel
theorem dX6_decide_20 : decode cX6_decide 20 = .ok (.ifCond .ne 6, 3) := by decide +kernel
theorem dX6_decide_23 : decode cX6_decide 23 = .ok (.bipush (-4), 2) := by decide +kernel
theorem dX6_decide_25 : decode cX6_decide 25 = .ok (.ireturn, 1) := by decide +kernel
theorem dX6_decide_26 : decode cX6_decide 26 = .ok (.aload_n 0, 1) := by decide +kernel
theorem dX6_decide_27 : decode cX6_decide 27 = .ok (.getfield 22, 3) := by decide +kernel
theorem dX6_decide_30 : decode cX6_decide 30 = .ok (.aload_n 0, 1) := by decide +kernel
theorem dX6_decide_31 : decode cX6_decide 31 = .ok (.getfield 10, 3) := by decide +kernel
theorem dX6_decide_34 : decode cX6_decide 34 = .ok (.invokevirtual 55, 3) := by decide +kernel
theorem dX6_decide_37 : decode cX6_decide 37 = .ok (.iload_n 2, 1) := by decide +kernel
theorem dX6_decide_38 : decode cX6_decide 38 = .ok (.ifCond .eq 17, 3) := by decide +kernel
theorem dX6_decide_41 : decode cX6_decide 41 = .ok (.aload_n 3, 1) := by decide +kernel
theorem dX6_decide_42 : decode cX6_decide 42 = .ok (.aload_n 0, 1) := by decide +kernel
theorem dX6_decide_43 : decode cX6_decide 43 = .ok (.getfield 10, 3) := by decide +kernel
theorem dX6_decide_46 : decode cX6_decide 46 = .ok (.invokevirtual 63, 3) := by decide +kernel
theorem dX6_decide_49 : decode cX6_decide 49 = .ok (.invokevirtual 157, 3) := by decide +kernel
theorem dX6_decide_52 : decode cX6_decide 52 = .ok (.goto 7, 3) := by decide +kernel
theorem dX6_decide_55 : decode cX6_decide 55 = .ok (.aload_n 3, 1) := by decide +kernel
theorem dX6_decide_56 : decode cX6_decide 56 = .ok (.invokevirtual 163, 3) := by decide +kernel
theorem dX6_decide_59 : decode cX6_decide 59 = .ok (.aload_n 0, 1) := by decide +kernel
theorem dX6_decide_60 : decode cX6_decide 60 = .ok (.getfield 10, 3) := by decide +kernel
theorem dX6_decide_63 : decode cX6_decide 63 = .ok (.iconst 1, 1) := by decide +kernel
theorem dX6_decide_64 : decode cX6_decide 64 = .ok (.invokevirtual 166, 3) := by decide +kernel
theorem dX6_decide_67 : decode cX6_decide 67 = .ok (.ireturn, 1) := by decide +kernel
theorem dX6_print_0 : decode cX6_print 0 = .ok (.aload_n 0, 1) := by decide +kernel
theorem dX6_print_1 : decode cX6_print 1 = .ok (.getfield 10, 3) := by decide +kernel
theorem dX6_print_4 : decode cX6_print 4 = .ok (.invokevirtual 63, 3) := by decide +kernel
theorem dX6_print_7 : decode cX6_print 7 = .ok (.sipush 9999, 3) := by decide +kernel
theorem dX6_print_10 : decode cX6_print 10 = .ok (.if_icmp .lt 6, 3) := by decide +kernel
theorem dX6_print_13 : decode cX6_print 13 = .ok (.bipush (-3), 2) := by decide +kernel
theorem dX6_print_15 : decode cX6_print 15 = .ok (.ireturn, 1) := by decide +kernel
theorem dX6_print_16 : decode cX6_print 16 = .ok (.aload_n 0, 1) := by decide +kernel
theorem dX6_print_17 : decode cX6_print 17 = .ok (.getfield 22, 3) := by decide +kernel
theorem dX6_print_20 : decode cX6_print 20 = .ok (.aload_n 0, 1) := by decide +kernel
theorem dX6_print_21 : decode cX6_print 21 = .ok (.getfield 10, 3) := by decide +kernel
theorem dX6_print_24 : decode cX6_print 24 = .ok (.invokevirtual 55, 3) := by decide +kernel
theorem dX6_print_27 : decode cX6_print 27 = .ok (.aload_n 0, 1) := by decide +kernel
theorem dX6_print_28 : decode cX6_print 28 = .ok (.getfield 43, 3) := by decide +kernel
theorem dX6_print_31 : decode cX6_print 31 = .ok (.aload_n 0, 1) := by decide +kernel
theorem dX6_print_32 : decode cX6_print 32 = .ok (.getfield 10, 3) := by decide +kernel
theorem dX6_print_35 : decode cX6_print 35 = .ok (.invokevirtual 169, 3) := by decide +kernel
theorem dX6_print_38 : decode cX6_print 38 = .ok (.aload_n 0, 1) := by decide +kernel
theorem dX6_print_39 : decode cX6_print 39 = .ok (.getfield 43, 3) := by decide +kernel
theorem dX6_print_42 : decode cX6_print 42 = .ok (.invokevirtual 172, 3) := by decide +kernel
theorem dX6_print_45 : decode cX6_print 45 = .ok (.istore_n 1, 1) := by decide +kernel
theorem dX6_print_46 : decode cX6_print 46 = .ok (.iconst 0, 1) := by decide +kernel
theorem dX6_print_47 : decode cX6_print 47 = .ok (.istore_n 2, 1) := by decide +kernel
theorem dX6_print_48 : decode cX6_print 48 = .ok (.iload_n 2, 1) := by decide +kernel
theorem dX6_print_49 : decode cX6_print 49 = .ok (.iload_n 1, 1) := by decide +kernel
theorem dX6_print_50 : decode cX6_print 50 = .ok (.if_icmp .ge 24, 3) := by decide +kernel
theorem dX6_print_53 : decode cX6_print 53 = .ok (.aload_n 0, 1) := by decide +kernel
theorem dX6_print_54 : decode cX6_print 54 = .ok (.getfield 10, 3) := by decide +kernel
theorem dX6_print_57 : decode cX6_print 57 = .ok (.aload_n 0, 1) := by decide +kernel
theorem dX6_print_58 : decode cX6_print 58 = .ok (.getfield 43, 3) := by decide +kernel
theorem dX6_print_61 : decode cX6_print 61 = .ok (.iload_n 2, 1) := by decide +kernel
theorem dX6_print_62 : decode cX6_print 62 = .ok (.invokevirtual 173, 3) := by decide +kernel
theorem dX6_print_65 : decode cX6_print 65 = .ok (.invokevirtual 176, 3) := by decide +kernel
theorem dX6_print_68 : decode cX6_print 68 = .ok (.iinc 2 1, 3) := by decide +kernel
theorem dX6_print_71 : decode cX6_print 71 = .ok (.goto (-23), 3) := by decide +kernel
theorem dX6_print_74 : decode cX6_print 74 = .ok (.aload_n 0, 1) := by decide +kernel
theorem dX6_print_75 : decode cX6_print 75 = .ok (.getfield 10, 3) := by decide +kernel
theorem dX6_print_78 : decode cX6_print 78 = .ok (.invokevirtual 179, 3) := by decide +kernel
theorem dX6_print_81 : decode cX6_print 81 = .ok (.aload_n 0, 1) := by decide +kernel
theorem dX6_print_82 : decode cX6_print 82 = .ok (.getfield 10, 3) := by decide +kernel
theorem dX6_print_85 : decode cX6_print 85 = .ok (.invokevirtual 182, 3) := by decide +kernel
theorem dX6_print_88 : decode cX6_print 88 = .ok (.iload_n 1, 1) := by decide +kernel
theorem dX6_print_89 : decode cX6_print 89 = .ok (.ireturn, 1) := by decide +kernel
theorem dX6_undo_0 : decode cX6_undo 0 = .ok (.aload_n 0, 1) := by decide +kernel
theorem dX6_undo_1 : decode cX6_undo 1 = .ok (.getfield 22, 3) := by decide +kernel
theorem dX6_undo_4 : decode cX6_undo 4 = .ok (.invokevirtual 204, 3) := by decide +kernel
theorem dX6_undo_7 : decode cX6_undo 7 = .ok (.iconst 1, 1) := by decide +kernel
theorem dX6_undo_8 : decode cX6_undo 8 = .ok (.if_icmp .ge 6, 3) := by decide +kernel
theorem dX6_undo_11 : decode cX6_undo 11 = .ok (.bipush (-5), 2) := by decide +kernel
theorem dX6_undo_13 : decode cX6_undo 13 = .ok (.ireturn, 1) := by decide +kernel
theorem dX6_undo_14 : decode cX6_undo 14 = .ok (.aload_n 0, 1) := by decide +kernel
theorem dX6_undo_15 : decode cX6_undo 15 = .ok (.getfield 22, 3) := by decide +kernel
theorem dX6_undo_18 : decode cX6_undo 18 = .ok (.aload_n 0, 1) := by decide +kernel
theorem dX6_undo_19 : decode cX6_undo 19 = .ok (.getfield 10, 3) := by decide +kernel
theorem dX6_undo_22 : decode cX6_undo 22 = .ok (.invokevirtual 205, 3) := by decide +kernel
theorem dX6_undo_25 : decode cX6_undo 25 = .ok (.aload_n 0, 1) := by decide +kernel
theorem dX6_undo_26 : decode cX6_undo 26 = .ok (.getfield 22, 3) := by decide +kernel
theorem dX6_undo_29 : decode cX6_undo 29 = .ok (.invokevirtual 204, 3) := by decide +kernel
theorem dX6_undo_32 : decode cX6_undo 32 = .ok (.ireturn, 1) := by decide +kernel
theorem dX6_keep_0 : decode cX6_keep 0 = .ok (.aload_n 0, 1) := by decide +kernel
theorem dX6_keep_1 : decode cX6_keep 1 = .ok (.getfield 16, 3) := by decide +kernel
theorem dX6_keep_4 : decode cX6_keep 4 = .ok (.aload_n 0, 1) := by decide +kernel
theorem dX6_keep_5 : decode cX6_keep 5 = .ok (.getfield 10, 3) := by decide +kernel
theorem dX6_keep_8 : decode cX6_keep 8 = .ok (.invokevirtual 208, 3) := by decide +kernel
theorem dX6_keep_11 : decode cX6_keep 11 = .ok (.aload_n 0, 1) := by decide +kernel
theorem dX6_keep_12 : decode cX6_keep 12 = .ok (.iconst 1, 1) := by decide +kernel
theorem dX6_keep_13 : decode cX6_keep 13 = .ok (.putfield 211, 3) := by decide +kernel
theorem dX6_keep_16 : decode cX6_keep 16 = .ok (.aload_n 0, 1) := by decide +kernel
theorem dX6_keep_17 : decode cX6_keep 17 = .ok (.getfield 10, 3) := by decide +kernel
theorem dX6_keep_20 : decode cX6_keep 20 = .ok (.invokevirtual 63, 3) := by decide +kernel
theorem dX6_keep_23 : decode cX6_keep 23 = .ok (.ireturn, 1) := by decide +kernel
theorem dX6_restore_0 : decode cX6_restore 0 = .ok (.aload_n 0, 1) := by decide +kernel
theorem dX6_restore_1 : decode cX6_restore 1 = .ok (.getfield 211, 3) := by decide +kernel
theorem dX6_restore_4 : decode cX6_restore 4 = .ok (.ifCond .ne 6, 3) := by decide +kernel
theorem dX6_restore_7 : decode cX6_restore 7 = .ok (.bipush (-5), 2) := by decide +kernel
theorem dX6_restore_9 : decode cX6_restore 9 = .ok (.ireturn, 1) := by decide +kernel
theorem dX6_restore_10 : decode cX6_restore 10 = .ok (.aload_n 0, 1) := by decide +kernel
theorem dX6_restore_11 : decode cX6_restore 11 = .ok (.getfield 22, 3) := by decide +kernel
theorem dX6_restore_14 : decode cX6_restore 14 = .ok (.aload_n 0, 1) := by decide +kernel
theorem dX6_restore_15 : decode cX6_restore 15 = .ok (.getfield 10, 3) := by decide +kernel
theorem dX6_restore_18 : decode cX6_restore 18 = .ok (.invokevirtual 55, 3) := by decide +kernel
theorem dX6_restore_21 : decode cX6_restore 21 = .ok (.aload_n 0, 1) := by decide +kernel
theorem dX6_restore_22 : decode cX6_restore 22 = .ok (.getfield 10, 3) := by decide +kernel
theorem dX6_restore_25 : decode cX6_restore 25 = .ok (.aload_n 0, 1) := by decide +kernel
theorem dX6_restore_26 : decode cX6_restore 26 = .ok (.getfield 16, 3) := by decide +kernel
theorem dX6_restore_29 : decode cX6_restore 29 = .ok (.invokevirtual 208, 3) := by decide +kernel
theorem dX6_restore_32 : decode cX6_restore 32 = .ok (.aload_n 0, 1) := by decide +kernel
theorem dX6_restore_33 : decode cX6_restore 33 = .ok (.getfield 10, 3) := by decide +kernel
theorem dX6_restore_36 : decode cX6_restore 36 = .ok (.invokevirtual 63, 3) := by decide +kernel
theorem dX6_restore_39 : decode cX6_restore 39 = .ok (.ireturn, 1) := by decide +kernel
theorem dX6_person_0 : decode cX6_person 0 = .ok (.aload_n 0, 1) := by decide +kernel
theorem dX6_person_1 : decode cX6_person 1 = .ok (.getfield 10, 3) := by decide +kernel
theorem dX6_person_4 : decode cX6_person 4 = .ok (.iload_n 1, 1) := by decide +kernel
theorem dX6_person_5 : decode cX6_person 5 = .ok (.invokevirtual 84, 3) := by decide +kernel
theorem dX6_person_8 : decode cX6_person 8 = .ok (.astore_n 3, 1) := by decide +kernel
theorem dX6_person_9 : decode cX6_person 9 = .ok (.aload_n 3, 1) := by decide +kernel
theorem dX6_person_10 : decode cX6_person 10 = .ok (.ifnonnull 5, 3) := by decide +kernel
theorem dX6_person_13 : decode cX6_person 13 = .ok (.iconst (-1), 1) := by decide +kernel
theorem dX6_person_14 : decode cX6_person 14 = .ok (.ireturn, 1) := by decide +kernel
theorem dX6_person_15 : decode cX6_person 15 = .ok (.iload_n 2, 1) := by decide +kernel
theorem dX6_person_16 : decode cX6_person 16 = .ok (.tableswitch 155 0 10 #[60, 65, 70, 75, 80, 85, 101, 106, 128, 133, 138], 60) := by decide +kernel
theorem dX6_person_76 : decode cX6_person 76 = .ok (.aload_n 3, 1) := by decide +kernel
theorem dX6_person_77 : decode cX6_person 77 = .ok (.invokevirtual 215, 3) := by decide +kernel
theorem dX6_person_80 : decode cX6_person 80 = .ok (.ireturn, 1) := by decide +kernel
theorem dX6_person_81 : decode cX6_person 81 = .ok (.aload_n 3, 1) := by decide +kernel
theorem dX6_person_82 : decode cX6_person 82 = .ok (.invokevirtual 218, 3) := by decide +kernel
theorem dX6_person_85 : decode cX6_person 85 = .ok (.ireturn, 1) := by decide +kernel
theorem dX6_person_86 : decode cX6_person 86 = .ok (.aload_n 3, 1) := by decide +kernel
theorem dX6_person_87 : decode cX6_person 87 = .ok (.invokevirtual 221, 3) := by decide +kernel
theorem dX6_person_90 : decode cX6_person 90 = .ok (.ireturn, 1) := by decide +kernel
theorem dX6_person_91 : decode cX6_person 91 = .ok (.aload_n 3, 1) := by decide +kernel
theorem dX6_person_92 : decode cX6_person 92 = .ok (.invokevirtual 95, 3) := by decide +kernel
theorem dX6_person_95 : decode cX6_person 95 = .ok (.ireturn, 1) := by decide +kernel
theorem dX6_person_96 : decode cX6_person 96 = .ok (.aload_n 3, 1) := by decide +kernel
theorem dX6_person_97 : decode cX6_person 97 = .ok (.invokevirtual 224, 3) := by decide +kernel
theorem dX6_person_100 : decode cX6_person 100 = .ok (.ireturn, 1) := by decide +kernel
theorem dX6_person_101 : decode cX6_person 101 = .ok (.aload_n 0, 1) := by decide +kernel
theorem dX6_person_102 : decode cX6_person 102 = .ok (.getfield 10, 3) := by decide +kernel
theorem dX6_person_105 : decode cX6_person 105 = .ok (.aload_n 3, 1) := by decide +kernel
theorem dX6_person_106 : decode cX6_person 106 = .ok (.aload_n 0, 1) := by decide +kernel
theorem dX6_person_107 : decode cX6_person 107 = .ok (.getfield 10, 3) := by decide +kernel
theorem dX6_person_110 : decode cX6_person 110 = .ok (.invokevirtual 63, 3) := by decide +kernel
theorem dX6_person_113 : decode cX6_person 113 = .ok (.invokevirtual 225, 3) := by decide +kernel
theorem dX6_person_116 : decode cX6_person 116 = .ok (.ireturn, 1) := by decide +kernel
theorem dX6_person_117 : decode cX6_person 117 = .ok (.aload_n 3, 1) := by decide +kernel
theorem dX6_person_118 : decode cX6_person 118 = .ok (.invokevirtual 229, 3) := by decide +kernel
theorem dX6_person_121 : decode cX6_person 121 = .ok (.ireturn, 1) := by decide +kernel
theorem dX6_person_122 : decode cX6_person 122 = .ok (.aload_n 3, 1) := by decide +kernel
theorem dX6_person_123 : decode cX6_person 123 = .ok (.iconst 0, 1) := by decide +kernel
theorem dX6_person_124 : decode cX6_person 124 = .ok (.invokevirtual 90, 3) := by decide +kernel
theorem dX6_person_127 : decode cX6_person 127 = .ok (.ifCond .eq 14, 3) := by decide +kernel
theorem dX6_person_130 : decode cX6_person 130 = .ok (.aload_n 0, 1) := by decide +kernel
theorem dX6_person_131 : decode cX6_person 131 = .ok (.getfield 10, 3) := by decide +kernel
theorem dX6_person_134 : decode cX6_person 134 = .ok (.aload_n 3, 1) := by decide +kernel
theorem dX6_person_135 : decode cX6_person 135 = .ok (.invokevirtual 232, 3) := by decide +kernel
theorem dX6_person_138 : decode cX6_person 138 = .ok (.goto 5, 3) := by decide +kernel
theorem dX6_person_141 : decode cX6_person 141 = .ok (.bipush (-5), 2) := by decide +kernel
theorem dX6_person_143 : decode cX6_person 143 = .ok (.ireturn, 1) := by decide +kernel
theorem dX6_person_144 : decode cX6_person 144 = .ok (.aload_n 3, 1) := by decide +kernel
theorem dX6_person_145 : decode cX6_person 145 = .ok (.invokevirtual 235, 3) := by decide +kernel
theorem dX6_person_148 : decode cX6_person 148 = .ok (.ireturn, 1) := by decide +kernel
theorem dX6_person_149 : decode cX6_person 149 = .ok (.aload_n 3, 1) := by decide +kernel
theorem dX6_person_150 : decode cX6_person 150 = .ok (.invokevirtual 238, 3) := by decide +kernel
theorem dX6_person_153 : decode cX6_person 153 = .ok (.ireturn, 1) := by decide +kernel
theorem dX6_person_154 : decode cX6_person 154 = .ok (.aload_n 0, 1) := by decide +kernel
theorem dX6_person_155 : decode cX6_person 155 = .ok (.getfield 10, 3) := by decide +kernel
theorem dX6_person_158 : decode cX6_person 158 = .ok (.aload_n 3, 1) := by decide +kernel
theorem dX6_person_159 : decode cX6_person 159 = .ok (.invokevirtual 241, 3) := by decide +kernel
theorem dX6_person_162 : decode cX6_person 162 = .ok (.ifCond .eq 7, 3) := by decide +kernel
theorem dX6_person_165 : decode cX6_person 165 = .ok (.iconst 1, 1) := by decide +kernel
theorem dX6_person_166 : decode cX6_person 166 = .ok (.goto 4, 3) := by decide +kernel
theorem dX6_person_169 : decode cX6_person 169 = .ok (.iconst 0, 1) := by decide +kernel
theorem dX6_person_170 : decode cX6_person 170 = .ok (.ireturn, 1) := by decide +kernel
theorem dX6_person_171 : decode cX6_person 171 = .ok (.bipush (-2), 2) := by decide +kernel
theorem dX6_person_173 : decode cX6_person 173 = .ok (.ireturn, 1) := by decide +kernel
theorem dX6_fact_0 : decode cX6_fact 0 = .ok (.aload_n 0, 1) := by decide +kernel
theorem dX6_fact_1 : decode cX6_fact 1 = .ok (.getfield 10, 3) := by decide +kernel
theorem dX6_fact_4 : decode cX6_fact 4 = .ok (.iload_n 1, 1) := by decide +kernel
theorem dX6_fact_5 : decode cX6_fact 5 = .ok (.invokevirtual 84, 3) := by decide +kernel
theorem dX6_fact_8 : decode cX6_fact 8 = .ok (.astore 4, 2) := by decide +kernel
theorem dX6_fact_10 : decode cX6_fact 10 = .ok (.aload 4, 2) := by decide +kernel
theorem dX6_fact_12 : decode cX6_fact 12 = .ok (.ifnull 12, 3) := by decide +kernel
theorem dX6_fact_15 : decode cX6_fact 15 = .ok (.aload 4, 2) := by decide +kernel
theorem dX6_fact_17 : decode cX6_fact 17 = .ok (.iload_n 2, 1) := by decide +kernel
theorem dX6_fact_18 : decode cX6_fact 18 = .ok (.invokevirtual 109, 3) := by decide +kernel
theorem dX6_fact_21 : decode cX6_fact 21 = .ok (.ifCond .ne 5, 3) := by decide +kernel
theorem dX6_fact_24 : decode cX6_fact 24 = .ok (.iconst (-1), 1) := by decide +kernel
theorem dX6_fact_25 : decode cX6_fact 25 = .ok (.ireturn, 1) := by decide +kernel
theorem dX6_fact_26 : decode cX6_fact 26 = .ok (.iload_n 3, 1) := by decide +kernel
theorem dX6_fact_27 : decode cX6_fact 27 = .ok (.tableswitch 94 0 4 #[33, 40, 47, 54, 73], 33) := by decide +kernel
theorem dX6_fact_60 : decode cX6_fact 60 = .ok (.aload 4, 2) := by decide +kernel
theorem dX6_fact_62 : decode cX6_fact 62 = .ok (.iload_n 2, 1) := by decide +kernel
theorem dX6_fact_63 : decode cX6_fact 63 = .ok (.invokevirtual 185, 3) := by decide +kernel
theorem dX6_fact_66 : decode cX6_fact 66 = .ok (.ireturn, 1) := by decide +kernel
theorem dX6_fact_67 : decode cX6_fact 67 = .ok (.aload 4, 2) := by decide +kernel
theorem dX6_fact_69 : decode cX6_fact 69 = .ok (.iload_n 2, 1) := by decide +kernel
theorem dX6_fact_70 : decode cX6_fact 70 = .ok (.invokevirtual 245, 3) := by decide +kernel
theorem dX6_fact_73 : decode cX6_fact 73 = .ok (.ireturn, 1) := by decide +kernel
theorem dX6_fact_74 : decode cX6_fact 74 = .ok (.aload 4, 2) := by decide +kernel
theorem dX6_fact_76 : decode cX6_fact 76 = .ok (.iload_n 2, 1) := by decide +kernel
theorem dX6_fact_77 : decode cX6_fact 77 = .ok (.invokevirtual 112, 3) := by decide +kernel
theorem dX6_fact_80 : decode cX6_fact 80 = .ok (.ireturn, 1) := by decide +kernel
theorem dX6_fact_81 : decode cX6_fact 81 = .ok (.aload_n 0, 1) := by decide +kernel
theorem dX6_fact_82 : decode cX6_fact 82 = .ok (.getfield 10, 3) := by decide +kernel
theorem dX6_fact_85 : decode cX6_fact 85 = .ok (.aload 4, 2) := by decide +kernel
theorem dX6_fact_87 : decode cX6_fact 87 = .ok (.iload_n 2, 1) := by decide +kernel
theorem dX6_fact_88 : decode cX6_fact 88 = .ok (.invokevirtual 248, 3) := by decide +kernel
theorem dX6_fact_91 : decode cX6_fact 91 = .ok (.ifCond .eq 7, 3) := by decide +kernel
theorem dX6_fact_94 : decode cX6_fact 94 = .ok (.iconst 1, 1) := by decide +kernel
theorem dX6_fact_95 : decode cX6_fact 95 = .ok (.goto 4, 3) := by decide +kernel
theorem dX6_fact_98 : decode cX6_fact 98 = .ok (.iconst 0, 1) := by decide +kernel
theorem dX6_fact_99 : decode cX6_fact 99 = .ok (.ireturn, 1) := by decide +kernel
theorem dX6_fact_100 : decode cX6_fact 100 = .ok (.aload_n 0, 1) := by decide +kernel
theorem dX6_fact_101 : decode cX6_fact 101 = .ok (.getfield 10, 3) := by decide +kernel
theorem dX6_fact_104 : decode cX6_fact 104 = .ok (.aload 4, 2) := by decide +kernel
theorem dX6_fact_106 : decode cX6_fact 106 = .ok (.iload_n 2, 1) := by decide +kernel
theorem dX6_fact_107 : decode cX6_fact 107 = .ok (.aload_n 0, 1) := by decide +kernel
theorem dX6_fact_108 : decode cX6_fact 108 = .ok (.getfield 10, 3) := by decide +kernel
theorem dX6_fact_111 : decode cX6_fact 111 = .ok (.invokevirtual 63, 3) := by decide +kernel
theorem dX6_fact_114 : decode cX6_fact 114 = .ok (.invokevirtual 252, 3) := by decide +kernel
theorem dX6_fact_117 : decode cX6_fact 117 = .ok (.invokestatic 256, 3) := by decide +kernel
theorem dX6_fact_120 : decode cX6_fact 120 = .ok (.ireturn, 1) := by decide +kernel
theorem dX6_fact_121 : decode cX6_fact 121 = .ok (.bipush (-2), 2) := by decide +kernel
theorem dX6_fact_123 : decode cX6_fact 123 = .ok (.ireturn, 1) := by decide +kernel
theorem dX6_worth_0 : decode cX6_worth 0 = .ok (.aload_n 0, 1) := by decide +kernel
theorem dX6_worth_1 : decode cX6_worth 1 = .ok (.getfield 10, 3) := by decide +kernel
theorem dX6_worth_4 : decode cX6_worth 4 = .ok (.iload_n 1, 1) := by decide +kernel
theorem dX6_worth_5 : decode cX6_worth 5 = .ok (.invokevirtual 84, 3) := by decide +kernel
theorem dX6_worth_8 : decode cX6_worth 8 = .ok (.astore_n 2, 1) := by decide +kernel
theorem dX6_worth_9 : decode cX6_worth 9 = .ok (.aload_n 2, 1) := by decide +kernel
theorem dX6_worth_10 : decode cX6_worth 10 = .ok (.ifnonnull 7, 3) := by decide +kernel
theorem dX6_worth_13 : decode cX6_worth 13 = .ok (.ldc_w 260, 3) := by decide +kernel
theorem dX6_worth_16 : decode cX6_worth 16 = .ok (.freturn, 1) := by decide +kernel
theorem dX6_worth_17 : decode cX6_worth 17 = .ok (.aload_n 0, 1) := by decide +kernel
theorem dX6_worth_18 : decode cX6_worth 18 = .ok (.getfield 10, 3) := by decide +kernel
theorem dX6_worth_21 : decode cX6_worth 21 = .ok (.aload_n 2, 1) := by decide +kernel
theorem dX6_worth_22 : decode cX6_worth 22 = .ok (.invokevirtual 261, 3) := by decide +kernel
theorem dX6_worth_25 : decode cX6_worth 25 = .ok (.freturn, 1) := by decide +kernel
theorem dX6_urgent_0 : decode cX6_urgent 0 = .ok (.iload_n 1, 1) := by decide +kernel
theorem dX6_urgent_1 : decode cX6_urgent 1 = .ok (.ifCond .ge 6, 3) := by decide +kernel
theorem dX6_urgent_4 : decode cX6_urgent 4 = .ok (.bipush (-2), 2) := by decide +kernel
theorem dX6_urgent_6 : decode cX6_urgent 6 = .ok (.ireturn, 1) := by decide +kernel
theorem dX6_urgent_7 : decode cX6_urgent 7 = .ok (.aload_n 0, 1) := by decide +kernel
theorem dX6_urgent_8 : decode cX6_urgent 8 = .ok (.getfield 10, 3) := by decide +kernel
theorem dX6_urgent_11 : decode cX6_urgent 11 = .ok (.aload_n 0, 1) := by decide +kernel
theorem dX6_urgent_12 : decode cX6_urgent 12 = .ok (.getfield 36, 3) := by decide +kernel
theorem dX6_urgent_15 : decode cX6_urgent 15 = .ok (.invokevirtual 265, 3) := by decide +kernel
theorem dX6_urgent_18 : decode cX6_urgent 18 = .ok (.aload_n 0, 1) := by decide +kernel
theorem dX6_urgent_19 : decode cX6_urgent 19 = .ok (.getfield 36, 3) := by decide +kernel
theorem dX6_urgent_22 : decode cX6_urgent 22 = .ok (.iload_n 1, 1) := by decide +kernel
theorem dX6_urgent_23 : decode cX6_urgent 23 = .ok (.invokevirtual 269, 3) := by decide +kernel
theorem dX6_urgent_26 : decode cX6_urgent 26 = .ok (.ireturn, 1) := by decide +kernel
theorem dX6_page_0 : decode cX6_page 0 = .ok (.iload_n 1, 1) := by decide +kernel
theorem dX6_page_1 : decode cX6_page 1 = .ok (.ifCond .ge 6, 3) := by decide +kernel
theorem dX6_page_4 : decode cX6_page 4 = .ok (.bipush (-2), 2) := by decide +kernel
theorem dX6_page_6 : decode cX6_page 6 = .ok (.ireturn, 1) := by decide +kernel
theorem dX6_page_7 : decode cX6_page 7 = .ok (.aload_n 0, 1) := by decide +kernel
theorem dX6_page_8 : decode cX6_page 8 = .ok (.getfield 43, 3) := by decide +kernel
theorem dX6_page_11 : decode cX6_page 11 = .ok (.aload_n 0, 1) := by decide +kernel
theorem dX6_page_12 : decode cX6_page 12 = .ok (.getfield 10, 3) := by decide +kernel
theorem dX6_page_15 : decode cX6_page 15 = .ok (.invokevirtual 169, 3) := by decide +kernel
theorem dX6_page_18 : decode cX6_page 18 = .ok (.aload_n 0, 1) := by decide +kernel
theorem dX6_page_19 : decode cX6_page 19 = .ok (.getfield 43, 3) := by decide +kernel
theorem dX6_page_22 : decode cX6_page 22 = .ok (.iload_n 1, 1) := by decide +kernel
theorem dX6_page_23 : decode cX6_page 23 = .ok (.invokevirtual 173, 3) := by decide +kernel
theorem dX6_page_26 : decode cX6_page 26 = .ok (.ireturn, 1) := by decide +kernel
theorem dX6_source_0 : decode cX6_source 0 = .ok (.iload_n 1, 1) := by decide +kernel
theorem dX6_source_1 : decode cX6_source 1 = .ok (.invokestatic 87, 3) := by decide +kernel
theorem dX6_source_4 : decode cX6_source 4 = .ok (.ifCond .ne 5, 3) := by decide +kernel
theorem dX6_source_7 : decode cX6_source 7 = .ok (.iconst (-1), 1) := by decide +kernel
theorem dX6_source_8 : decode cX6_source 8 = .ok (.ireturn, 1) := by decide +kernel
theorem dX6_source_9 : decode cX6_source 9 = .ok (.iload_n 2, 1) := by decide +kernel
theorem dX6_source_10 : decode cX6_source 10 = .ok (.tableswitch 66 0 3 #[30, 39, 48, 57], 30) := by decide +kernel
theorem dX6_source_40 : decode cX6_source 40 = .ok (.aload_n 0, 1) := by decide +kernel
theorem dX6_source_41 : decode cX6_source 41 = .ok (.getfield 10, 3) := by decide +kernel
theorem dX6_source_44 : decode cX6_source 44 = .ok (.iload_n 1, 1) := by decide +kernel
theorem dX6_source_45 : decode cX6_source 45 = .ok (.invokevirtual 131, 3) := by decide +kernel
theorem dX6_source_48 : decode cX6_source 48 = .ok (.ireturn, 1) := by decide +kernel
theorem dX6_source_49 : decode cX6_source 49 = .ok (.aload_n 0, 1) := by decide +kernel
theorem dX6_source_50 : decode cX6_source 50 = .ok (.getfield 10, 3) := by decide +kernel
theorem dX6_source_53 : decode cX6_source 53 = .ok (.iload_n 1, 1) := by decide +kernel
theorem dX6_source_54 : decode cX6_source 54 = .ok (.invokevirtual 270, 3) := by decide +kernel
theorem dX6_source_57 : decode cX6_source 57 = .ok (.ireturn, 1) := by decide +kernel
theorem dX6_source_58 : decode cX6_source 58 = .ok (.aload_n 0, 1) := by decide +kernel
theorem dX6_source_59 : decode cX6_source 59 = .ok (.getfield 10, 3) := by decide +kernel
theorem dX6_source_62 : decode cX6_source 62 = .ok (.iload_n 1, 1) := by decide +kernel
theorem dX6_source_63 : decode cX6_source 63 = .ok (.invokevirtual 273, 3) := by decide +kernel
theorem dX6_source_66 : decode cX6_source 66 = .ok (.ireturn, 1) := by decide +kernel
theorem dX6_source_67 : decode cX6_source 67 = .ok (.aload_n 0, 1) := by decide +kernel
theorem dX6_source_68 : decode cX6_source 68 = .ok (.getfield 10, 3) := by decide +kernel
theorem dX6_source_71 : decode cX6_source 71 = .ok (.iload_n 1, 1) := by decide +kernel
theorem dX6_source_72 : decode cX6_source 72 = .ok (.invokevirtual 276, 3) := by decide +kernel
theorem dX6_source_75 : decode cX6_source 75 = .ok (.ireturn, 1) := by decide +kernel
theorem dX6_source_76 : decode cX6_source 76 = .ok (.bipush (-2), 2) := by decide +kernel
theorem dX6_source_78 : decode cX6_source 78 = .ok (.ireturn, 1) := by decide +kernel
theorem dX6_staleIn_0 : decode cX6_staleIn 0 = .ok (.iload_n 1, 1) := by decide +kernel
theorem dX6_staleIn_1 : decode cX6_staleIn 1 = .ok (.iconst 0, 1) := by decide +kernel
theorem dX6_staleIn_2 : decode cX6_staleIn 2 = .ok (.sipush 999, 3) := by decide +kernel
theorem dX6_staleIn_5 : decode cX6_staleIn 5 = .ok (.invokestatic 47, 3) := by decide +kernel
theorem dX6_staleIn_8 : decode cX6_staleIn 8 = .ok (.ifCond .ne 6, 3) := by decide +kernel
theorem dX6_staleIn_11 : decode cX6_staleIn 11 = .ok (.bipush (-2), 2) := by decide +kernel
theorem dX6_staleIn_13 : decode cX6_staleIn 13 = .ok (.ireturn, 1) := by decide +kernel
theorem dX6_staleIn_14 : decode cX6_staleIn 14 = .ok (.aload_n 0, 1) := by decide +kernel
theorem dX6_staleIn_15 : decode cX6_staleIn 15 = .ok (.getfield 10, 3) := by decide +kernel
theorem dX6_staleIn_18 : decode cX6_staleIn 18 = .ok (.aload_n 0, 1) := by decide +kernel
theorem dX6_staleIn_19 : decode cX6_staleIn 19 = .ok (.getfield 10, 3) := by decide +kernel
theorem dX6_staleIn_22 : decode cX6_staleIn 22 = .ok (.invokevirtual 63, 3) := by decide +kernel
theorem dX6_staleIn_25 : decode cX6_staleIn 25 = .ok (.iload_n 1, 1) := by decide +kernel
theorem dX6_staleIn_26 : decode cX6_staleIn 26 = .ok (.iadd, 1) := by decide +kernel
theorem dX6_staleIn_27 : decode cX6_staleIn 27 = .ok (.invokevirtual 279, 3) := by decide +kernel
theorem dX6_staleIn_30 : decode cX6_staleIn 30 = .ok (.ireturn, 1) := by decide +kernel
theorem dX6_count_0 : decode cX6_count 0 = .ok (.iload_n 1, 1) := by decide +kernel
theorem dX6_count_1 : decode cX6_count 1 = .ok (.tableswitch 225 0 17 #[87, 95, 103, 111, 120, 129, 138, 147, 155, 170, 189, 197, 197, 197, 197, 197, 209, 217], 87) := by decide +kernel
theorem dX6_count_88 : decode cX6_count 88 = .ok (.aload_n 0, 1) := by decide +kernel
theorem dX6_count_89 : decode cX6_count 89 = .ok (.getfield 10, 3) := by decide +kernel
theorem dX6_count_92 : decode cX6_count 92 = .ok (.invokevirtual 63, 3) := by decide +kernel
theorem dX6_count_95 : decode cX6_count 95 = .ok (.ireturn, 1) := by decide +kernel
theorem dX6_count_96 : decode cX6_count 96 = .ok (.aload_n 0, 1) := by decide +kernel
theorem dX6_count_97 : decode cX6_count 97 = .ok (.getfield 10, 3) := by decide +kernel
theorem dX6_count_100 : decode cX6_count 100 = .ok (.invokevirtual 282, 3) := by decide +kernel
theorem dX6_count_103 : decode cX6_count 103 = .ok (.ireturn, 1) := by decide +kernel
theorem dX6_count_104 : decode cX6_count 104 = .ok (.aload_n 0, 1) := by decide +kernel
theorem dX6_count_105 : decode cX6_count 105 = .ok (.getfield 10, 3) := by decide +kernel
theorem dX6_count_108 : decode cX6_count 108 = .ok (.invokevirtual 98, 3) := by decide +kernel
theorem dX6_count_111 : decode cX6_count 111 = .ok (.ireturn, 1) := by decide +kernel
theorem dX6_count_112 : decode cX6_count 112 = .ok (.aload_n 0, 1) := by decide +kernel
theorem dX6_count_113 : decode cX6_count 113 = .ok (.getfield 10, 3) := by decide +kernel
theorem dX6_count_116 : decode cX6_count 116 = .ok (.iconst 0, 1) := by decide +kernel
theorem dX6_count_117 : decode cX6_count 117 = .ok (.invokevirtual 166, 3) := by decide +kernel
theorem dX6_count_120 : decode cX6_count 120 = .ok (.ireturn, 1) := by decide +kernel
theorem dX6_count_121 : decode cX6_count 121 = .ok (.aload_n 0, 1) := by decide +kernel
theorem dX6_count_122 : decode cX6_count 122 = .ok (.getfield 10, 3) := by decide +kernel
theorem dX6_count_125 : decode cX6_count 125 = .ok (.iconst 1, 1) := by decide +kernel
theorem dX6_count_126 : decode cX6_count 126 = .ok (.invokevirtual 166, 3) := by decide +kernel
theorem dX6_count_129 : decode cX6_count 129 = .ok (.ireturn, 1) := by decide +kernel
theorem dX6_count_130 : decode cX6_count 130 = .ok (.aload_n 0, 1) := by decide +kernel
theorem dX6_count_131 : decode cX6_count 131 = .ok (.getfield 10, 3) := by decide +kernel
theorem dX6_count_134 : decode cX6_count 134 = .ok (.iconst 2, 1) := by decide +kernel
theorem dX6_count_135 : decode cX6_count 135 = .ok (.invokevirtual 166, 3) := by decide +kernel
theorem dX6_count_138 : decode cX6_count 138 = .ok (.ireturn, 1) := by decide +kernel
theorem dX6_count_139 : decode cX6_count 139 = .ok (.aload_n 0, 1) := by decide +kernel
theorem dX6_count_140 : decode cX6_count 140 = .ok (.getfield 10, 3) := by decide +kernel
theorem dX6_count_143 : decode cX6_count 143 = .ok (.iconst 3, 1) := by decide +kernel
theorem dX6_count_144 : decode cX6_count 144 = .ok (.invokevirtual 166, 3) := by decide +kernel
theorem dX6_count_147 : decode cX6_count 147 = .ok (.ireturn, 1) := by decide +kernel
theorem dX6_count_148 : decode cX6_count 148 = .ok (.aload_n 0, 1) := by decide +kernel
theorem dX6_count_149 : decode cX6_count 149 = .ok (.getfield 10, 3) := by decide +kernel
theorem dX6_count_152 : decode cX6_count 152 = .ok (.invokevirtual 285, 3) := by decide +kernel
theorem dX6_count_155 : decode cX6_count 155 = .ok (.ireturn, 1) := by decide +kernel
theorem dX6_count_156 : decode cX6_count 156 = .ok (.aload_n 0, 1) := by decide +kernel
theorem dX6_count_157 : decode cX6_count 157 = .ok (.getfield 10, 3) := by decide +kernel
theorem dX6_count_160 : decode cX6_count 160 = .ok (.aload_n 0, 1) := by decide +kernel
theorem dX6_count_161 : decode cX6_count 161 = .ok (.getfield 10, 3) := by decide +kernel
theorem dX6_count_164 : decode cX6_count 164 = .ok (.invokevirtual 63, 3) := by decide +kernel
theorem dX6_count_167 : decode cX6_count 167 = .ok (.invokevirtual 279, 3) := by decide +kernel
theorem dX6_count_170 : decode cX6_count 170 = .ok (.ireturn, 1) := by decide +kernel
theorem dX6_count_171 : decode cX6_count 171 = .ok (.aload_n 0, 1) := by decide +kernel
theorem dX6_count_172 : decode cX6_count 172 = .ok (.getfield 43, 3) := by decide +kernel
theorem dX6_count_175 : decode cX6_count 175 = .ok (.aload_n 0, 1) := by decide +kernel
theorem dX6_count_176 : decode cX6_count 176 = .ok (.getfield 10, 3) := by decide +kernel
theorem dX6_count_179 : decode cX6_count 179 = .ok (.invokevirtual 169, 3) := by decide +kernel
theorem dX6_count_182 : decode cX6_count 182 = .ok (.aload_n 0, 1) := by decide +kernel
theorem dX6_count_183 : decode cX6_count 183 = .ok (.getfield 43, 3) := by decide +kernel
theorem dX6_count_186 : decode cX6_count 186 = .ok (.invokevirtual 288, 3) := by decide +kernel
theorem dX6_count_189 : decode cX6_count 189 = .ok (.ireturn, 1) := by decide +kernel
theorem dX6_count_190 : decode cX6_count 190 = .ok (.aload_n 0, 1) := by decide +kernel
theorem dX6_count_191 : decode cX6_count 191 = .ok (.getfield 10, 3) := by decide +kernel
theorem dX6_count_194 : decode cX6_count 194 = .ok (.invokevirtual 291, 3) := by decide +kernel
theorem dX6_count_197 : decode cX6_count 197 = .ok (.ireturn, 1) := by decide +kernel
theorem dX6_count_198 : decode cX6_count 198 = .ok (.aload_n 0, 1) := by decide +kernel
theorem dX6_count_199 : decode cX6_count 199 = .ok (.getfield 10, 3) := by decide +kernel
theorem dX6_count_202 : decode cX6_count 202 = .ok (.iload_n 1, 1) := by decide +kernel
theorem dX6_count_203 : decode cX6_count 203 = .ok (.bipush 11, 2) := by decide +kernel
theorem dX6_count_205 : decode cX6_count 205 = .ok (.isub, 1) := by decide +kernel
theorem dX6_count_206 : decode cX6_count 206 = .ok (.invokevirtual 148, 3) := by decide +kernel
theorem dX6_count_209 : decode cX6_count 209 = .ok (.ireturn, 1) := by decide +kernel
theorem dX6_count_210 : decode cX6_count 210 = .ok (.aload_n 0, 1) := by decide +kernel
theorem dX6_count_211 : decode cX6_count 211 = .ok (.getfield 22, 3) := by decide +kernel
theorem dX6_count_214 : decode cX6_count 214 = .ok (.invokevirtual 204, 3) := by decide +kernel
theorem dX6_count_217 : decode cX6_count 217 = .ok (.ireturn, 1) := by decide +kernel
theorem dX6_count_218 : decode cX6_count 218 = .ok (.aload_n 0, 1) := by decide +kernel
theorem dX6_count_219 : decode cX6_count 219 = .ok (.getfield 29, 3) := by decide +kernel
theorem dX6_count_222 : decode cX6_count 222 = .ok (.invokevirtual 198, 3) := by decide +kernel
theorem dX6_count_225 : decode cX6_count 225 = .ok (.ireturn, 1) := by decide +kernel
theorem dX6_count_226 : decode cX6_count 226 = .ok (.bipush (-2), 2) := by decide +kernel
theorem dX6_count_228 : decode cX6_count 228 = .ok (.ireturn, 1) := by decide +kernel
theorem dX6_isWithin_0 : decode cX6_isWithin 0 = .ok (.iload_n 0, 1) := by decide +kernel
theorem dX6_isWithin_1 : decode cX6_isWithin 1 = .ok (.iload_n 1, 1) := by decide +kernel
theorem dX6_isWithin_2 : decode cX6_isWithin 2 = .ok (.if_icmp .lt 12, 3) := by decide +kernel
theorem dX6_isWithin_5 : decode cX6_isWithin 5 = .ok (.iload_n 0, 1) := by decide +kernel
theorem dX6_isWithin_6 : decode cX6_isWithin 6 = .ok (.iload_n 2, 1) := by decide +kernel
theorem dX6_isWithin_7 : decode cX6_isWithin 7 = .ok (.if_icmp .gt 7, 3) := by decide +kernel
theorem dX6_isWithin_10 : decode cX6_isWithin 10 = .ok (.iconst 1, 1) := by decide +kernel
theorem dX6_isWithin_11 : decode cX6_isWithin 11 = .ok (.goto 4, 3) := by decide +kernel
theorem dX6_isWithin_14 : decode cX6_isWithin 14 = .ok (.iconst 0, 1) := by decide +kernel
theorem dX6_isWithin_15 : decode cX6_isWithin 15 = .ok (.ireturn, 1) := by decide +kernel
theorem dX6_isSource_0 : decode cX6_isSource 0 = .ok (.iload_n 0, 1) := by decide +kernel
theorem dX6_isSource_1 : decode cX6_isSource 1 = .ok (.ifCond .lt 13, 3) := by decide +kernel
theorem dX6_isSource_4 : decode cX6_isSource 4 = .ok (.iload_n 0, 1) := by decide +kernel
theorem dX6_isSource_5 : decode cX6_isSource 5 = .ok (.bipush 6, 2) := by decide +kernel
theorem dX6_isSource_7 : decode cX6_isSource 7 = .ok (.if_icmp .ge 7, 3) := by decide +kernel
theorem dX6_isSource_10 : decode cX6_isSource 10 = .ok (.iconst 1, 1) := by decide +kernel
theorem dX6_isSource_11 : decode cX6_isSource 11 = .ok (.goto 4, 3) := by decide +kernel
theorem dX6_isSource_14 : decode cX6_isSource 14 = .ok (.iconst 0, 1) := by decide +kernel
theorem dX6_isSource_15 : decode cX6_isSource 15 = .ok (.ireturn, 1) := by decide +kernel
theorem dX6_isSetting_0 : decode cX6_isSetting 0 = .ok (.iload_n 0, 1) := by decide +kernel
theorem dX6_isSetting_1 : decode cX6_isSetting 1 = .ok (.ifCond .lt 12, 3) := by decide +kernel
theorem dX6_isSetting_4 : decode cX6_isSetting 4 = .ok (.iload_n 0, 1) := by decide +kernel
theorem dX6_isSetting_5 : decode cX6_isSetting 5 = .ok (.iconst 5, 1) := by decide +kernel
theorem dX6_isSetting_6 : decode cX6_isSetting 6 = .ok (.if_icmp .ge 7, 3) := by decide +kernel
theorem dX6_isSetting_9 : decode cX6_isSetting 9 = .ok (.iconst 1, 1) := by decide +kernel
theorem dX6_isSetting_10 : decode cX6_isSetting 10 = .ok (.goto 4, 3) := by decide +kernel
theorem dX6_isSetting_13 : decode cX6_isSetting 13 = .ok (.iconst 0, 1) := by decide +kernel
theorem dX6_isSetting_14 : decode cX6_isSetting 14 = .ok (.ireturn, 1) := by decide +kernel
theorem dX6_bitsOf_0 : decode cX6_bitsOf 0 = .ok (.fload_n 0, 1) := by decide +kernel
theorem dX6_bitsOf_1 : decode cX6_bitsOf 1 = .ok (.fstore_n 1, 1) := by decide +kernel
theorem dX6_bitsOf_2 : decode cX6_bitsOf 2 = .ok (.bipush 127, 2) := by decide +kernel
theorem dX6_bitsOf_4 : decode cX6_bitsOf 4 = .ok (.istore_n 2, 1) := by decide +kernel
theorem dX6_bitsOf_5 : decode cX6_bitsOf 5 = .ok (.fload_n 1, 1) := by decide +kernel
theorem dX6_bitsOf_6 : decode cX6_bitsOf 6 = .ok (.fconst 1, 1) := by decide +kernel
theorem dX6_bitsOf_7 : decode cX6_bitsOf 7 = .ok (.fcmp .g, 1) := by decide +kernel
theorem dX6_bitsOf_8 : decode cX6_bitsOf 8 = .ok (.ifCond .ge 18, 3) := by decide +kernel
theorem dX6_bitsOf_11 : decode cX6_bitsOf 11 = .ok (.iload_n 2, 1) := by decide +kernel
theorem dX6_bitsOf_12 : decode cX6_bitsOf 12 = .ok (.iconst 1, 1) := by decide +kernel
theorem dX6_bitsOf_13 : decode cX6_bitsOf 13 = .ok (.if_icmp .le 13, 3) := by decide +kernel
theorem dX6_bitsOf_16 : decode cX6_bitsOf 16 = .ok (.fload_n 1, 1) := by decide +kernel
theorem dX6_bitsOf_17 : decode cX6_bitsOf 17 = .ok (.fconst 2, 1) := by decide +kernel
theorem dX6_bitsOf_18 : decode cX6_bitsOf 18 = .ok (.fmul, 1) := by decide +kernel
theorem dX6_bitsOf_19 : decode cX6_bitsOf 19 = .ok (.fstore_n 1, 1) := by decide +kernel
theorem dX6_bitsOf_20 : decode cX6_bitsOf 20 = .ok (.iinc 2 (-1), 3) := by decide +kernel
theorem dX6_bitsOf_23 : decode cX6_bitsOf 23 = .ok (.goto (-18), 3) := by decide +kernel
theorem dX6_bitsOf_26 : decode cX6_bitsOf 26 = .ok (.fload_n 1, 1) := by decide +kernel
theorem dX6_bitsOf_27 : decode cX6_bitsOf 27 = .ok (.fconst 1, 1) := by decide +kernel
theorem dX6_bitsOf_28 : decode cX6_bitsOf 28 = .ok (.fcmp .g, 1) := by decide +kernel
theorem dX6_bitsOf_29 : decode cX6_bitsOf 29 = .ok (.ifCond .ge 10, 3) := by decide +kernel
theorem dX6_bitsOf_32 : decode cX6_bitsOf 32 = .ok (.fload_n 1, 1) := by decide +kernel
theorem dX6_bitsOf_33 : decode cX6_bitsOf 33 = .ok (.ldc_w 294, 3) := by decide +kernel
theorem dX6_bitsOf_36 : decode cX6_bitsOf 36 = .ok (.fmul, 1) := by decide +kernel
theorem dX6_bitsOf_37 : decode cX6_bitsOf 37 = .ok (.f2i, 1) := by decide +kernel
theorem dX6_bitsOf_38 : decode cX6_bitsOf 38 = .ok (.ireturn, 1) := by decide +kernel
theorem dX6_bitsOf_39 : decode cX6_bitsOf 39 = .ok (.iload_n 2, 1) := by decide +kernel
theorem dX6_bitsOf_40 : decode cX6_bitsOf 40 = .ok (.bipush 23, 2) := by decide +kernel
theorem dX6_bitsOf_42 : decode cX6_bitsOf 42 = .ok (.ishl, 1) := by decide +kernel
theorem dX6_bitsOf_43 : decode cX6_bitsOf 43 = .ok (.fload_n 1, 1) := by decide +kernel
theorem dX6_bitsOf_44 : decode cX6_bitsOf 44 = .ok (.fconst 1, 1) := by decide +kernel
theorem dX6_bitsOf_45 : decode cX6_bitsOf 45 = .ok (.fsub, 1) := by decide +kernel
theorem dX6_bitsOf_46 : decode cX6_bitsOf 46 = .ok (.ldc_w 294, 3) := by decide +kernel
theorem dX6_bitsOf_49 : decode cX6_bitsOf 49 = .ok (.fmul, 1) := by decide +kernel
theorem dX6_bitsOf_50 : decode cX6_bitsOf 50 = .ok (.f2i, 1) := by decide +kernel
theorem dX6_bitsOf_51 : decode cX6_bitsOf 51 = .ok (.ior, 1) := by decide +kernel
theorem dX6_bitsOf_52 : decode cX6_bitsOf 52 = .ok (.ireturn, 1) := by decide +kernel
theorem dJ6_bitCount_0f7a4_0 : decode cJ6_bitCount_0f7a4 0 = .ok (.iload_n 0, 1) := by decide +kernel
theorem dJ6_bitCount_0f7a4_1 : decode cJ6_bitCount_0f7a4 1 = .ok (.iload_n 0, 1) := by decide +kernel
theorem dJ6_bitCount_0f7a4_2 : decode cJ6_bitCount_0f7a4 2 = .ok (.iconst 1, 1) := by decide +kernel
theorem dJ6_bitCount_0f7a4_3 : decode cJ6_bitCount_0f7a4 3 = .ok (.iushr, 1) := by decide +kernel
theorem dJ6_bitCount_0f7a4_4 : decode cJ6_bitCount_0f7a4 4 = .ok (.ldc_w 265, 3) := by decide +kernel
theorem dJ6_bitCount_0f7a4_7 : decode cJ6_bitCount_0f7a4 7 = .ok (.iand, 1) := by decide +kernel
theorem dJ6_bitCount_0f7a4_8 : decode cJ6_bitCount_0f7a4 8 = .ok (.isub, 1) := by decide +kernel
theorem dJ6_bitCount_0f7a4_9 : decode cJ6_bitCount_0f7a4 9 = .ok (.istore_n 0, 1) := by decide +kernel
theorem dJ6_bitCount_0f7a4_10 : decode cJ6_bitCount_0f7a4 10 = .ok (.iload_n 0, 1) := by decide +kernel
theorem dJ6_bitCount_0f7a4_11 : decode cJ6_bitCount_0f7a4 11 = .ok (.ldc_w 266, 3) := by decide +kernel
theorem dJ6_bitCount_0f7a4_14 : decode cJ6_bitCount_0f7a4 14 = .ok (.iand, 1) := by decide +kernel
theorem dJ6_bitCount_0f7a4_15 : decode cJ6_bitCount_0f7a4 15 = .ok (.iload_n 0, 1) := by decide +kernel
theorem dJ6_bitCount_0f7a4_16 : decode cJ6_bitCount_0f7a4 16 = .ok (.iconst 2, 1) := by decide +kernel
theorem dJ6_bitCount_0f7a4_17 : decode cJ6_bitCount_0f7a4 17 = .ok (.iushr, 1) := by decide +kernel
theorem dJ6_bitCount_0f7a4_18 : decode cJ6_bitCount_0f7a4 18 = .ok (.ldc_w 266, 3) := by decide +kernel
theorem dJ6_bitCount_0f7a4_21 : decode cJ6_bitCount_0f7a4 21 = .ok (.iand, 1) := by decide +kernel
theorem dJ6_bitCount_0f7a4_22 : decode cJ6_bitCount_0f7a4 22 = .ok (.iadd, 1) := by decide +kernel
theorem dJ6_bitCount_0f7a4_23 : decode cJ6_bitCount_0f7a4 23 = .ok (.istore_n 0, 1) := by decide +kernel
theorem dJ6_bitCount_0f7a4_24 : decode cJ6_bitCount_0f7a4 24 = .ok (.iload_n 0, 1) := by decide +kernel
theorem dJ6_bitCount_0f7a4_25 : decode cJ6_bitCount_0f7a4 25 = .ok (.iload_n 0, 1) := by decide +kernel
theorem dJ6_bitCount_0f7a4_26 : decode cJ6_bitCount_0f7a4 26 = .ok (.iconst 4, 1) := by decide +kernel
theorem dJ6_bitCount_0f7a4_27 : decode cJ6_bitCount_0f7a4 27 = .ok (.iushr, 1) := by decide +kernel
theorem dJ6_bitCount_0f7a4_28 : decode cJ6_bitCount_0f7a4 28 = .ok (.iadd, 1) := by decide +kernel
theorem dJ6_bitCount_0f7a4_29 : decode cJ6_bitCount_0f7a4 29 = .ok (.ldc_w 267, 3) := by decide +kernel
theorem dJ6_bitCount_0f7a4_32 : decode cJ6_bitCount_0f7a4 32 = .ok (.iand, 1) := by decide +kernel
theorem dJ6_bitCount_0f7a4_33 : decode cJ6_bitCount_0f7a4 33 = .ok (.istore_n 0, 1) := by decide +kernel
theorem dJ6_bitCount_0f7a4_34 : decode cJ6_bitCount_0f7a4 34 = .ok (.iload_n 0, 1) := by decide +kernel
theorem dJ6_bitCount_0f7a4_35 : decode cJ6_bitCount_0f7a4 35 = .ok (.iload_n 0, 1) := by decide +kernel
theorem dJ6_bitCount_0f7a4_36 : decode cJ6_bitCount_0f7a4 36 = .ok (.bipush 8, 2) := by decide +kernel
theorem dJ6_bitCount_0f7a4_38 : decode cJ6_bitCount_0f7a4 38 = .ok (.iushr, 1) := by decide +kernel
theorem dJ6_bitCount_0f7a4_39 : decode cJ6_bitCount_0f7a4 39 = .ok (.iadd, 1) := by decide +kernel
theorem dJ6_bitCount_0f7a4_40 : decode cJ6_bitCount_0f7a4 40 = .ok (.istore_n 0, 1) := by decide +kernel
theorem dJ6_bitCount_0f7a4_41 : decode cJ6_bitCount_0f7a4 41 = .ok (.iload_n 0, 1) := by decide +kernel
theorem dJ6_bitCount_0f7a4_42 : decode cJ6_bitCount_0f7a4 42 = .ok (.iload_n 0, 1) := by decide +kernel
theorem dJ6_bitCount_0f7a4_43 : decode cJ6_bitCount_0f7a4 43 = .ok (.bipush 16, 2) := by decide +kernel
theorem dJ6_bitCount_0f7a4_45 : decode cJ6_bitCount_0f7a4 45 = .ok (.iushr, 1) := by decide +kernel
theorem dJ6_bitCount_0f7a4_46 : decode cJ6_bitCount_0f7a4 46 = .ok (.iadd, 1) := by decide +kernel
theorem dJ6_bitCount_0f7a4_47 : decode cJ6_bitCount_0f7a4 47 = .ok (.istore_n 0, 1) := by decide +kernel
theorem dJ6_bitCount_0f7a4_48 : decode cJ6_bitCount_0f7a4 48 = .ok (.iload_n 0, 1) := by decide +kernel
theorem dJ6_bitCount_0f7a4_49 : decode cJ6_bitCount_0f7a4 49 = .ok (.bipush 63, 2) := by decide +kernel
theorem dJ6_bitCount_0f7a4_51 : decode cJ6_bitCount_0f7a4 51 = .ok (.iand, 1) := by decide +kernel
theorem dJ6_bitCount_0f7a4_52 : decode cJ6_bitCount_0f7a4 52 = .ok (.ireturn, 1) := by decide +kernel
