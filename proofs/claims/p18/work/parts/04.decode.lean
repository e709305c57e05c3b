theorem dX0_init_0 : decode cX0_init 0 = .ok (.aload_n 0, 1) := by decide +kernel
theorem dX0_init_1 : decode cX0_init 1 = .ok (.invokespecial 3, 3) := by decide +kernel
theorem dX0_init_4 : decode cX0_init 4 = .ok (.return_, 1) := by decide +kernel
theorem dX0_placeToServe_0 : decode cX0_placeToServe 0 = .ok (.aload_n 0, 1) := by decide +kernel
theorem dX0_placeToServe_1 : decode cX0_placeToServe 1 = .ok (.bipush 6, 2) := by decide +kernel
theorem dX0_placeToServe_3 : decode cX0_placeToServe 3 = .ok (.putfield 9, 3) := by decide +kernel
theorem dX0_placeToServe_6 : decode cX0_placeToServe 6 = .ok (.aload_n 0, 1) := by decide +kernel
theorem dX0_placeToServe_7 : decode cX0_placeToServe 7 = .ok (.bipush 14, 2) := by decide +kernel
theorem dX0_placeToServe_9 : decode cX0_placeToServe 9 = .ok (.putfield 15, 3) := by decide +kernel
theorem dX0_placeToServe_12 : decode cX0_placeToServe 12 = .ok (.aload_n 0, 1) := by decide +kernel
theorem dX0_placeToServe_13 : decode cX0_placeToServe 13 = .ok (.iconst 3, 1) := by decide +kernel
theorem dX0_placeToServe_14 : decode cX0_placeToServe 14 = .ok (.putfield 18, 3) := by decide +kernel
theorem dX0_placeToServe_17 : decode cX0_placeToServe 17 = .ok (.return_, 1) := by decide +kernel
theorem dX0_become_0 : decode cX0_become 0 = .ok (.aload_n 0, 1) := by decide +kernel
theorem dX0_become_1 : decode cX0_become 1 = .ok (.aload_n 1, 1) := by decide +kernel
theorem dX0_become_2 : decode cX0_become 2 = .ok (.getfield 9, 3) := by decide +kernel
theorem dX0_become_5 : decode cX0_become 5 = .ok (.putfield 9, 3) := by decide +kernel
theorem dX0_become_8 : decode cX0_become 8 = .ok (.aload_n 0, 1) := by decide +kernel
theorem dX0_become_9 : decode cX0_become 9 = .ok (.aload_n 1, 1) := by decide +kernel
theorem dX0_become_10 : decode cX0_become 10 = .ok (.getfield 15, 3) := by decide +kernel
theorem dX0_become_13 : decode cX0_become 13 = .ok (.putfield 15, 3) := by decide +kernel
theorem dX0_become_16 : decode cX0_become 16 = .ok (.aload_n 0, 1) := by decide +kernel
theorem dX0_become_17 : decode cX0_become 17 = .ok (.aload_n 1, 1) := by decide +kernel
theorem dX0_become_18 : decode cX0_become 18 = .ok (.getfield 18, 3) := by decide +kernel
theorem dX0_become_21 : decode cX0_become 21 = .ok (.putfield 18, 3) := by decide +kernel
theorem dX0_become_24 : decode cX0_become 24 = .ok (.aload_n 0, 1) := by decide +kernel
theorem dX0_become_25 : decode cX0_become 25 = .ok (.aload_n 1, 1) := by decide +kernel
theorem dX0_become_26 : decode cX0_become 26 = .ok (.getfield 21, 3) := by decide +kernel
theorem dX0_become_29 : decode cX0_become 29 = .ok (.putfield 21, 3) := by decide +kernel
theorem dX0_become_32 : decode cX0_become 32 = .ok (.aload_n 0, 1) := by decide +kernel
theorem dX0_become_33 : decode cX0_become 33 = .ok (.aload_n 1, 1) := by decide +kernel
theorem dX0_become_34 : decode cX0_become 34 = .ok (.getfield 24, 3) := by decide +kernel
theorem dX0_become_37 : decode cX0_become 37 = .ok (.putfield 24, 3) := by decide +kernel
theorem dX0_become_40 : decode cX0_become 40 = .ok (.aload_n 0, 1) := by decide +kernel
theorem dX0_become_41 : decode cX0_become 41 = .ok (.aload_n 1, 1) := by decide +kernel
theorem dX0_become_42 : decode cX0_become 42 = .ok (.getfield 27, 3) := by decide +kernel
theorem dX0_become_45 : decode cX0_become 45 = .ok (.putfield 27, 3) := by decide +kernel
theorem dX0_become_48 : decode cX0_become 48 = .ok (.aload_n 0, 1) := by decide +kernel
theorem dX0_become_49 : decode cX0_become 49 = .ok (.aload_n 1, 1) := by decide +kernel
theorem dX0_become_50 : decode cX0_become 50 = .ok (.getfield 30, 3) := by decide +kernel
theorem dX0_become_53 : decode cX0_become 53 = .ok (.putfield 30, 3) := by decide +kernel
theorem dX0_become_56 : decode cX0_become 56 = .ok (.aload_n 0, 1) := by decide +kernel
theorem dX0_become_57 : decode cX0_become 57 = .ok (.aload_n 1, 1) := by decide +kernel
theorem dX0_become_58 : decode cX0_become 58 = .ok (.getfield 33, 3) := by decide +kernel
theorem dX0_become_61 : decode cX0_become 61 = .ok (.putfield 33, 3) := by decide +kernel
theorem dX0_become_64 : decode cX0_become 64 = .ok (.aload_n 0, 1) := by decide +kernel
theorem dX0_become_65 : decode cX0_become 65 = .ok (.aload_n 1, 1) := by decide +kernel
theorem dX0_become_66 : decode cX0_become 66 = .ok (.getfield 36, 3) := by decide +kernel
theorem dX0_become_69 : decode cX0_become 69 = .ok (.putfield 36, 3) := by decide +kernel
theorem dX0_become_72 : decode cX0_become 72 = .ok (.aload_n 0, 1) := by decide +kernel
theorem dX0_become_73 : decode cX0_become 73 = .ok (.aload_n 1, 1) := by decide +kernel
theorem dX0_become_74 : decode cX0_become 74 = .ok (.getfield 39, 3) := by decide +kernel
theorem dX0_become_77 : decode cX0_become 77 = .ok (.putfield 39, 3) := by decide +kernel
theorem dX0_become_80 : decode cX0_become 80 = .ok (.aload_n 0, 1) := by decide +kernel
theorem dX0_become_81 : decode cX0_become 81 = .ok (.aload_n 1, 1) := by decide +kernel
theorem dX0_become_82 : decode cX0_become 82 = .ok (.getfield 42, 3) := by decide +kernel
theorem dX0_become_85 : decode cX0_become 85 = .ok (.putfield 42, 3) := by decide +kernel
theorem dX0_become_88 : decode cX0_become 88 = .ok (.return_, 1) := by decide +kernel
theorem dX0_launch_0 : decode cX0_launch 0 = .ok (.aload_n 0, 1) := by decide +kernel
theorem dX0_launch_1 : decode cX0_launch 1 = .ok (.aload_n 0, 1) := by decide +kernel
theorem dX0_launch_2 : decode cX0_launch 2 = .ok (.getfield 18, 3) := by decide +kernel
theorem dX0_launch_5 : decode cX0_launch 5 = .ok (.iconst 1, 1) := by decide +kernel
theorem dX0_launch_6 : decode cX0_launch 6 = .ok (.invokestatic 45, 3) := by decide +kernel
theorem dX0_launch_9 : decode cX0_launch 9 = .ok (.putfield 18, 3) := by decide +kernel
theorem dX0_launch_12 : decode cX0_launch 12 = .ok (.aload_n 0, 1) := by decide +kernel
theorem dX0_launch_13 : decode cX0_launch 13 = .ok (.iload_n 1, 1) := by decide +kernel
theorem dX0_launch_14 : decode cX0_launch 14 = .ok (.putfield 21, 3) := by decide +kernel
theorem dX0_launch_17 : decode cX0_launch 17 = .ok (.aload_n 0, 1) := by decide +kernel
theorem dX0_launch_18 : decode cX0_launch 18 = .ok (.iload_n 2, 1) := by decide +kernel
theorem dX0_launch_19 : decode cX0_launch 19 = .ok (.putfield 24, 3) := by decide +kernel
theorem dX0_launch_22 : decode cX0_launch 22 = .ok (.aload_n 0, 1) := by decide +kernel
theorem dX0_launch_23 : decode cX0_launch 23 = .ok (.iload_n 3, 1) := by decide +kernel
theorem dX0_launch_24 : decode cX0_launch 24 = .ok (.putfield 27, 3) := by decide +kernel
theorem dX0_launch_27 : decode cX0_launch 27 = .ok (.aload_n 0, 1) := by decide +kernel
theorem dX0_launch_28 : decode cX0_launch 28 = .ok (.iconst 0, 1) := by decide +kernel
theorem dX0_launch_29 : decode cX0_launch 29 = .ok (.putfield 30, 3) := by decide +kernel
theorem dX0_launch_32 : decode cX0_launch 32 = .ok (.aload_n 0, 1) := by decide +kernel
theorem dX0_launch_33 : decode cX0_launch 33 = .ok (.iconst 0, 1) := by decide +kernel
theorem dX0_launch_34 : decode cX0_launch 34 = .ok (.putfield 33, 3) := by decide +kernel
theorem dX0_launch_37 : decode cX0_launch 37 = .ok (.aload_n 0, 1) := by decide +kernel
theorem dX0_launch_38 : decode cX0_launch 38 = .ok (.iconst 0, 1) := by decide +kernel
theorem dX0_launch_39 : decode cX0_launch 39 = .ok (.putfield 36, 3) := by decide +kernel
theorem dX0_launch_42 : decode cX0_launch 42 = .ok (.aload_n 0, 1) := by decide +kernel
theorem dX0_launch_43 : decode cX0_launch 43 = .ok (.iconst 0, 1) := by decide +kernel
theorem dX0_launch_44 : decode cX0_launch 44 = .ok (.putfield 39, 3) := by decide +kernel
theorem dX0_launch_47 : decode cX0_launch 47 = .ok (.aload_n 0, 1) := by decide +kernel
theorem dX0_launch_48 : decode cX0_launch 48 = .ok (.iconst 0, 1) := by decide +kernel
theorem dX0_launch_49 : decode cX0_launch 49 = .ok (.putfield 42, 3) := by decide +kernel
theorem dX0_launch_52 : decode cX0_launch 52 = .ok (.return_, 1) := by decide +kernel
theorem dX0_fly_0 : decode cX0_fly 0 = .ok (.iconst 0, 1) := by decide +kernel
theorem dX0_fly_1 : decode cX0_fly 1 = .ok (.istore_n 2, 1) := by decide +kernel
theorem dX0_fly_2 : decode cX0_fly 2 = .ok (.iload_n 2, 1) := by decide +kernel
theorem dX0_fly_3 : decode cX0_fly 3 = .ok (.iload_n 1, 1) := by decide +kernel
theorem dX0_fly_4 : decode cX0_fly 4 = .ok (.if_icmp .ge 20, 3) := by decide +kernel
theorem dX0_fly_7 : decode cX0_fly 7 = .ok (.aload_n 0, 1) := by decide +kernel
theorem dX0_fly_8 : decode cX0_fly 8 = .ok (.getfield 42, 3) := by decide +kernel
theorem dX0_fly_11 : decode cX0_fly 11 = .ok (.ifCond .ne 13, 3) := by decide +kernel
theorem dX0_fly_14 : decode cX0_fly 14 = .ok (.aload_n 0, 1) := by decide +kernel
theorem dX0_fly_15 : decode cX0_fly 15 = .ok (.invokevirtual 51, 3) := by decide +kernel
theorem dX0_fly_18 : decode cX0_fly 18 = .ok (.iinc 2 1, 3) := by decide +kernel
theorem dX0_fly_21 : decode cX0_fly 21 = .ok (.goto (-19), 3) := by decide +kernel
theorem dX0_fly_24 : decode cX0_fly 24 = .ok (.return_, 1) := by decide +kernel
theorem dX0_passMoment_0 : decode cX0_passMoment 0 = .ok (.aload_n 0, 1) := by decide +kernel
theorem dX0_passMoment_1 : decode cX0_passMoment 1 = .ok (.dup, 1) := by decide +kernel
theorem dX0_passMoment_2 : decode cX0_passMoment 2 = .ok (.getfield 39, 3) := by decide +kernel
theorem dX0_passMoment_5 : decode cX0_passMoment 5 = .ok (.iconst 1, 1) := by decide +kernel
theorem dX0_passMoment_6 : decode cX0_passMoment 6 = .ok (.iadd, 1) := by decide +kernel
theorem dX0_passMoment_7 : decode cX0_passMoment 7 = .ok (.putfield 39, 3) := by decide +kernel
theorem dX0_passMoment_10 : decode cX0_passMoment 10 = .ok (.aload_n 0, 1) := by decide +kernel
theorem dX0_passMoment_11 : decode cX0_passMoment 11 = .ok (.invokevirtual 54, 3) := by decide +kernel
theorem dX0_passMoment_14 : decode cX0_passMoment 14 = .ok (.aload_n 0, 1) := by decide +kernel
theorem dX0_passMoment_15 : decode cX0_passMoment 15 = .ok (.invokevirtual 57, 3) := by decide +kernel
theorem dX0_passMoment_18 : decode cX0_passMoment 18 = .ok (.aload_n 0, 1) := by decide +kernel
theorem dX0_passMoment_19 : decode cX0_passMoment 19 = .ok (.getfield 42, 3) := by decide +kernel
theorem dX0_passMoment_22 : decode cX0_passMoment 22 = .ok (.ifCond .ne 7, 3) := by decide +kernel
theorem dX0_passMoment_25 : decode cX0_passMoment 25 = .ok (.aload_n 0, 1) := by decide +kernel
theorem dX0_passMoment_26 : decode cX0_passMoment 26 = .ok (.invokevirtual 60, 3) := by decide +kernel
theorem dX0_passMoment_29 : decode cX0_passMoment 29 = .ok (.return_, 1) := by decide +kernel
theorem dX0_goAcross_0 : decode cX0_goAcross 0 = .ok (.aload_n 0, 1) := by decide +kernel
theorem dX0_goAcross_1 : decode cX0_goAcross 1 = .ok (.getfield 21, 3) := by decide +kernel
theorem dX0_goAcross_4 : decode cX0_goAcross 4 = .ok (.invokestatic 63, 3) := by decide +kernel
theorem dX0_goAcross_7 : decode cX0_goAcross 7 = .ok (.istore_n 1, 1) := by decide +kernel
theorem dX0_goAcross_8 : decode cX0_goAcross 8 = .ok (.iconst 0, 1) := by decide +kernel
theorem dX0_goAcross_9 : decode cX0_goAcross 9 = .ok (.istore_n 2, 1) := by decide +kernel
theorem dX0_goAcross_10 : decode cX0_goAcross 10 = .ok (.iload_n 2, 1) := by decide +kernel
theorem dX0_goAcross_11 : decode cX0_goAcross 11 = .ok (.iload_n 1, 1) := by decide +kernel
theorem dX0_goAcross_12 : decode cX0_goAcross 12 = .ok (.if_icmp .ge 70, 3) := by decide +kernel
theorem dX0_goAcross_15 : decode cX0_goAcross 15 = .ok (.aload_n 0, 1) := by decide +kernel
theorem dX0_goAcross_16 : decode cX0_goAcross 16 = .ok (.getfield 9, 3) := by decide +kernel
theorem dX0_goAcross_19 : decode cX0_goAcross 19 = .ok (.aload_n 0, 1) := by decide +kernel
theorem dX0_goAcross_20 : decode cX0_goAcross 20 = .ok (.getfield 21, 3) := by decide +kernel
theorem dX0_goAcross_23 : decode cX0_goAcross 23 = .ok (.invokestatic 67, 3) := by decide +kernel
theorem dX0_goAcross_26 : decode cX0_goAcross 26 = .ok (.iadd, 1) := by decide +kernel
theorem dX0_goAcross_27 : decode cX0_goAcross 27 = .ok (.istore_n 3, 1) := by decide +kernel
theorem dX0_goAcross_28 : decode cX0_goAcross 28 = .ok (.iload_n 3, 1) := by decide +kernel
theorem dX0_goAcross_29 : decode cX0_goAcross 29 = .ok (.ifCond .lt 20, 3) := by decide +kernel
theorem dX0_goAcross_32 : decode cX0_goAcross 32 = .ok (.iload_n 3, 1) := by decide +kernel
theorem dX0_goAcross_33 : decode cX0_goAcross 33 = .ok (.bipush 12, 2) := by decide +kernel
theorem dX0_goAcross_35 : decode cX0_goAcross 35 = .ok (.if_icmp .ge 14, 3) := by decide +kernel
theorem dX0_goAcross_38 : decode cX0_goAcross 38 = .ok (.iload_n 3, 1) := by decide +kernel
theorem dX0_goAcross_39 : decode cX0_goAcross 39 = .ok (.aload_n 0, 1) := by decide +kernel
theorem dX0_goAcross_40 : decode cX0_goAcross 40 = .ok (.getfield 15, 3) := by decide +kernel
theorem dX0_goAcross_43 : decode cX0_goAcross 43 = .ok (.invokestatic 72, 3) := by decide +kernel
theorem dX0_goAcross_46 : decode cX0_goAcross 46 = .ok (.ifCond .eq 25, 3) := by decide +kernel
theorem dX0_goAcross_49 : decode cX0_goAcross 49 = .ok (.aload_n 0, 1) := by decide +kernel
theorem dX0_goAcross_50 : decode cX0_goAcross 50 = .ok (.aload_n 0, 1) := by decide +kernel
theorem dX0_goAcross_51 : decode cX0_goAcross 51 = .ok (.getfield 21, 3) := by decide +kernel
theorem dX0_goAcross_54 : decode cX0_goAcross 54 = .ok (.ineg, 1) := by decide +kernel
theorem dX0_goAcross_55 : decode cX0_goAcross 55 = .ok (.putfield 21, 3) := by decide +kernel
theorem dX0_goAcross_58 : decode cX0_goAcross 58 = .ok (.aload_n 0, 1) := by decide +kernel
theorem dX0_goAcross_59 : decode cX0_goAcross 59 = .ok (.dup, 1) := by decide +kernel
theorem dX0_goAcross_60 : decode cX0_goAcross 60 = .ok (.getfield 36, 3) := by decide +kernel
theorem dX0_goAcross_63 : decode cX0_goAcross 63 = .ok (.iconst 1, 1) := by decide +kernel
theorem dX0_goAcross_64 : decode cX0_goAcross 64 = .ok (.iadd, 1) := by decide +kernel
theorem dX0_goAcross_65 : decode cX0_goAcross 65 = .ok (.putfield 36, 3) := by decide +kernel
theorem dX0_goAcross_68 : decode cX0_goAcross 68 = .ok (.goto 8, 3) := by decide +kernel
theorem dX0_goAcross_71 : decode cX0_goAcross 71 = .ok (.aload_n 0, 1) := by decide +kernel
theorem dX0_goAcross_72 : decode cX0_goAcross 72 = .ok (.iload_n 3, 1) := by decide +kernel
theorem dX0_goAcross_73 : decode cX0_goAcross 73 = .ok (.putfield 9, 3) := by decide +kernel
theorem dX0_goAcross_76 : decode cX0_goAcross 76 = .ok (.iinc 2 1, 3) := by decide +kernel
theorem dX0_goAcross_79 : decode cX0_goAcross 79 = .ok (.goto (-69), 3) := by decide +kernel
theorem dX0_goAcross_82 : decode cX0_goAcross 82 = .ok (.return_, 1) := by decide +kernel
theorem dX0_goAlong_0 : decode cX0_goAlong 0 = .ok (.aload_n 0, 1) := by decide +kernel
theorem dX0_goAlong_1 : decode cX0_goAlong 1 = .ok (.getfield 24, 3) := by decide +kernel
theorem dX0_goAlong_4 : decode cX0_goAlong 4 = .ok (.invokestatic 63, 3) := by decide +kernel
theorem dX0_goAlong_7 : decode cX0_goAlong 7 = .ok (.istore_n 1, 1) := by decide +kernel
theorem dX0_goAlong_8 : decode cX0_goAlong 8 = .ok (.iconst 0, 1) := by decide +kernel
theorem dX0_goAlong_9 : decode cX0_goAlong 9 = .ok (.istore_n 2, 1) := by decide +kernel
theorem dX0_goAlong_10 : decode cX0_goAlong 10 = .ok (.iload_n 2, 1) := by decide +kernel
theorem dX0_goAlong_11 : decode cX0_goAlong 11 = .ok (.iload_n 1, 1) := by decide +kernel
theorem dX0_goAlong_12 : decode cX0_goAlong 12 = .ok (.if_icmp .ge 20, 3) := by decide +kernel
theorem dX0_goAlong_15 : decode cX0_goAlong 15 = .ok (.aload_n 0, 1) := by decide +kernel
theorem dX0_goAlong_16 : decode cX0_goAlong 16 = .ok (.getfield 42, 3) := by decide +kernel
theorem dX0_goAlong_19 : decode cX0_goAlong 19 = .ok (.ifCond .ne 13, 3) := by decide +kernel
theorem dX0_goAlong_22 : decode cX0_goAlong 22 = .ok (.aload_n 0, 1) := by decide +kernel
theorem dX0_goAlong_23 : decode cX0_goAlong 23 = .ok (.invokevirtual 76, 3) := by decide +kernel
theorem dX0_goAlong_26 : decode cX0_goAlong 26 = .ok (.iinc 2 1, 3) := by decide +kernel
theorem dX0_goAlong_29 : decode cX0_goAlong 29 = .ok (.goto (-19), 3) := by decide +kernel
theorem dX0_goAlong_32 : decode cX0_goAlong 32 = .ok (.return_, 1) := by decide +kernel
theorem dX0_goOneRow_0 : decode cX0_goOneRow 0 = .ok (.aload_n 0, 1) := by decide +kernel
theorem dX0_goOneRow_1 : decode cX0_goOneRow 1 = .ok (.getfield 15, 3) := by decide +kernel
theorem dX0_goOneRow_4 : decode cX0_goOneRow 4 = .ok (.aload_n 0, 1) := by decide +kernel
theorem dX0_goOneRow_5 : decode cX0_goOneRow 5 = .ok (.getfield 24, 3) := by decide +kernel
theorem dX0_goOneRow_8 : decode cX0_goOneRow 8 = .ok (.invokestatic 67, 3) := by decide +kernel
theorem dX0_goOneRow_11 : decode cX0_goOneRow 11 = .ok (.iadd, 1) := by decide +kernel
theorem dX0_goOneRow_12 : decode cX0_goOneRow 12 = .ok (.istore_n 1, 1) := by decide +kernel
theorem dX0_goOneRow_13 : decode cX0_goOneRow 13 = .ok (.iload_n 1, 1) := by decide +kernel
theorem dX0_goOneRow_14 : decode cX0_goOneRow 14 = .ok (.ifCond .ge 10, 3) := by decide +kernel
theorem dX0_goOneRow_17 : decode cX0_goOneRow 17 = .ok (.aload_n 0, 1) := by decide +kernel
theorem dX0_goOneRow_18 : decode cX0_goOneRow 18 = .ok (.invokevirtual 79, 3) := by decide +kernel
theorem dX0_goOneRow_21 : decode cX0_goOneRow 21 = .ok (.goto 66, 3) := by decide +kernel
theorem dX0_goOneRow_24 : decode cX0_goOneRow 24 = .ok (.iload_n 1, 1) := by decide +kernel
theorem dX0_goOneRow_25 : decode cX0_goOneRow 25 = .ok (.bipush 30, 2) := by decide +kernel
theorem dX0_goOneRow_27 : decode cX0_goOneRow 27 = .ok (.if_icmp .lt 22, 3) := by decide +kernel
theorem dX0_goOneRow_30 : decode cX0_goOneRow 30 = .ok (.aload_n 0, 1) := by decide +kernel
theorem dX0_goOneRow_31 : decode cX0_goOneRow 31 = .ok (.aload_n 0, 1) := by decide +kernel
theorem dX0_goOneRow_32 : decode cX0_goOneRow 32 = .ok (.getfield 33, 3) := by decide +kernel
theorem dX0_goOneRow_35 : decode cX0_goOneRow 35 = .ok (.ifCond .ne 7, 3) := by decide +kernel
theorem dX0_goOneRow_38 : decode cX0_goOneRow 38 = .ok (.iconst 2, 1) := by decide +kernel
theorem dX0_goOneRow_39 : decode cX0_goOneRow 39 = .ok (.goto 4, 3) := by decide +kernel
theorem dX0_goOneRow_42 : decode cX0_goOneRow 42 = .ok (.iconst 3, 1) := by decide +kernel
theorem dX0_goOneRow_43 : decode cX0_goOneRow 43 = .ok (.putfield 42, 3) := by decide +kernel
theorem dX0_goOneRow_46 : decode cX0_goOneRow 46 = .ok (.goto 41, 3) := by decide +kernel
theorem dX0_goOneRow_49 : decode cX0_goOneRow 49 = .ok (.aload_n 0, 1) := by decide +kernel
theorem dX0_goOneRow_50 : decode cX0_goOneRow 50 = .ok (.getfield 9, 3) := by decide +kernel
theorem dX0_goOneRow_53 : decode cX0_goOneRow 53 = .ok (.iload_n 1, 1) := by decide +kernel
theorem dX0_goOneRow_54 : decode cX0_goOneRow 54 = .ok (.invokestatic 72, 3) := by decide +kernel
theorem dX0_goOneRow_57 : decode cX0_goOneRow 57 = .ok (.ifCond .eq 25, 3) := by decide +kernel
theorem dX0_goOneRow_60 : decode cX0_goOneRow 60 = .ok (.aload_n 0, 1) := by decide +kernel
theorem dX0_goOneRow_61 : decode cX0_goOneRow 61 = .ok (.aload_n 0, 1) := by decide +kernel
theorem dX0_goOneRow_62 : decode cX0_goOneRow 62 = .ok (.getfield 24, 3) := by decide +kernel
theorem dX0_goOneRow_65 : decode cX0_goOneRow 65 = .ok (.ineg, 1) := by decide +kernel
theorem dX0_goOneRow_66 : decode cX0_goOneRow 66 = .ok (.putfield 24, 3) := by decide +kernel
theorem dX0_goOneRow_69 : decode cX0_goOneRow 69 = .ok (.aload_n 0, 1) := by decide +kernel
theorem dX0_goOneRow_70 : decode cX0_goOneRow 70 = .ok (.dup, 1) := by decide +kernel
theorem dX0_goOneRow_71 : decode cX0_goOneRow 71 = .ok (.getfield 36, 3) := by decide +kernel
theorem dX0_goOneRow_74 : decode cX0_goOneRow 74 = .ok (.iconst 1, 1) := by decide +kernel
theorem dX0_goOneRow_75 : decode cX0_goOneRow 75 = .ok (.iadd, 1) := by decide +kernel
theorem dX0_goOneRow_76 : decode cX0_goOneRow 76 = .ok (.putfield 36, 3) := by decide +kernel
theorem dX0_goOneRow_79 : decode cX0_goOneRow 79 = .ok (.goto 8, 3) := by decide +kernel
theorem dX0_goOneRow_82 : decode cX0_goOneRow 82 = .ok (.aload_n 0, 1) := by decide +kernel
theorem dX0_goOneRow_83 : decode cX0_goOneRow 83 = .ok (.iload_n 1, 1) := by decide +kernel
theorem dX0_goOneRow_84 : decode cX0_goOneRow 84 = .ok (.putfield 15, 3) := by decide +kernel
theorem dX0_goOneRow_87 : decode cX0_goOneRow 87 = .ok (.return_, 1) := by decide +kernel
theorem dX0_touchFront_0 : decode cX0_touchFront 0 = .ok (.aload_n 0, 1) := by decide +kernel
theorem dX0_touchFront_1 : decode cX0_touchFront 1 = .ok (.aload_n 0, 1) := by decide +kernel
theorem dX0_touchFront_2 : decode cX0_touchFront 2 = .ok (.getfield 24, 3) := by decide +kernel
theorem dX0_touchFront_5 : decode cX0_touchFront 5 = .ok (.ineg, 1) := by decide +kernel
theorem dX0_touchFront_6 : decode cX0_touchFront 6 = .ok (.putfield 24, 3) := by decide +kernel
theorem dX0_touchFront_9 : decode cX0_touchFront 9 = .ok (.aload_n 0, 1) := by decide +kernel
theorem dX0_touchFront_10 : decode cX0_touchFront 10 = .ok (.dup, 1) := by decide +kernel
theorem dX0_touchFront_11 : decode cX0_touchFront 11 = .ok (.getfield 30, 3) := by decide +kernel
theorem dX0_touchFront_14 : decode cX0_touchFront 14 = .ok (.iconst 1, 1) := by decide +kernel
theorem dX0_touchFront_15 : decode cX0_touchFront 15 = .ok (.iadd, 1) := by decide +kernel
theorem dX0_touchFront_16 : decode cX0_touchFront 16 = .ok (.putfield 30, 3) := by decide +kernel
theorem dX0_touchFront_19 : decode cX0_touchFront 19 = .ok (.aload_n 0, 1) := by decide +kernel
theorem dX0_touchFront_20 : decode cX0_touchFront 20 = .ok (.getfield 18, 3) := by decide +kernel
theorem dX0_touchFront_23 : decode cX0_touchFront 23 = .ok (.iconst 4, 1) := by decide +kernel
theorem dX0_touchFront_24 : decode cX0_touchFront 24 = .ok (.if_icmp .ge 8, 3) := by decide +kernel
theorem dX0_touchFront_27 : decode cX0_touchFront 27 = .ok (.aload_n 0, 1) := by decide +kernel
theorem dX0_touchFront_28 : decode cX0_touchFront 28 = .ok (.iconst 1, 1) := by decide +kernel
theorem dX0_touchFront_29 : decode cX0_touchFront 29 = .ok (.putfield 42, 3) := by decide +kernel
theorem dX0_touchFront_32 : decode cX0_touchFront 32 = .ok (.return_, 1) := by decide +kernel
theorem dX0_goUpOrDown_0 : decode cX0_goUpOrDown 0 = .ok (.aload_n 0, 1) := by decide +kernel
theorem dX0_goUpOrDown_1 : decode cX0_goUpOrDown 1 = .ok (.dup, 1) := by decide +kernel
theorem dX0_goUpOrDown_2 : decode cX0_goUpOrDown 2 = .ok (.getfield 18, 3) := by decide +kernel
theorem dX0_goUpOrDown_5 : decode cX0_goUpOrDown 5 = .ok (.aload_n 0, 1) := by decide +kernel
theorem dX0_goUpOrDown_6 : decode cX0_goUpOrDown 6 = .ok (.getfield 27, 3) := by decide +kernel
theorem dX0_goUpOrDown_9 : decode cX0_goUpOrDown 9 = .ok (.iadd, 1) := by decide +kernel
theorem dX0_goUpOrDown_10 : decode cX0_goUpOrDown 10 = .ok (.putfield 18, 3) := by decide +kernel
theorem dX0_goUpOrDown_13 : decode cX0_goUpOrDown 13 = .ok (.aload_n 0, 1) := by decide +kernel
theorem dX0_goUpOrDown_14 : decode cX0_goUpOrDown 14 = .ok (.dup, 1) := by decide +kernel
theorem dX0_goUpOrDown_15 : decode cX0_goUpOrDown 15 = .ok (.getfield 27, 3) := by decide +kernel
theorem dX0_goUpOrDown_18 : decode cX0_goUpOrDown 18 = .ok (.iconst 1, 1) := by decide +kernel
theorem dX0_goUpOrDown_19 : decode cX0_goUpOrDown 19 = .ok (.isub, 1) := by decide +kernel
theorem dX0_goUpOrDown_20 : decode cX0_goUpOrDown 20 = .ok (.putfield 27, 3) := by decide +kernel
theorem dX0_goUpOrDown_23 : decode cX0_goUpOrDown 23 = .ok (.aload_n 0, 1) := by decide +kernel
theorem dX0_goUpOrDown_24 : decode cX0_goUpOrDown 24 = .ok (.getfield 18, 3) := by decide +kernel
theorem dX0_goUpOrDown_27 : decode cX0_goUpOrDown 27 = .ok (.ifCond .gt 14, 3) := by decide +kernel
theorem dX0_goUpOrDown_30 : decode cX0_goUpOrDown 30 = .ok (.aload_n 0, 1) := by decide +kernel
theorem dX0_goUpOrDown_31 : decode cX0_goUpOrDown 31 = .ok (.getfield 27, 3) := by decide +kernel
theorem dX0_goUpOrDown_34 : decode cX0_goUpOrDown 34 = .ok (.ifCond .ge 7, 3) := by decide +kernel
theorem dX0_goUpOrDown_37 : decode cX0_goUpOrDown 37 = .ok (.aload_n 0, 1) := by decide +kernel
theorem dX0_goUpOrDown_38 : decode cX0_goUpOrDown 38 = .ok (.invokevirtual 82, 3) := by decide +kernel
theorem dX0_goUpOrDown_41 : decode cX0_goUpOrDown 41 = .ok (.return_, 1) := by decide +kernel
theorem dX0_bounce_0 : decode cX0_bounce 0 = .ok (.aload_n 0, 1) := by decide +kernel
theorem dX0_bounce_1 : decode cX0_bounce 1 = .ok (.iconst 0, 1) := by decide +kernel
theorem dX0_bounce_2 : decode cX0_bounce 2 = .ok (.putfield 18, 3) := by decide +kernel
theorem dX0_bounce_5 : decode cX0_bounce 5 = .ok (.aload_n 0, 1) := by decide +kernel
theorem dX0_bounce_6 : decode cX0_bounce 6 = .ok (.aload_n 0, 1) := by decide +kernel
theorem dX0_bounce_7 : decode cX0_bounce 7 = .ok (.getfield 27, 3) := by decide +kernel
theorem dX0_bounce_10 : decode cX0_bounce 10 = .ok (.ineg, 1) := by decide +kernel
theorem dX0_bounce_11 : decode cX0_bounce 11 = .ok (.iconst 2, 1) := by decide +kernel
theorem dX0_bounce_12 : decode cX0_bounce 12 = .ok (.idiv, 1) := by decide +kernel
theorem dX0_bounce_13 : decode cX0_bounce 13 = .ok (.putfield 27, 3) := by decide +kernel
theorem dX0_bounce_16 : decode cX0_bounce 16 = .ok (.aload_n 0, 1) := by decide +kernel
theorem dX0_bounce_17 : decode cX0_bounce 17 = .ok (.dup, 1) := by decide +kernel
theorem dX0_bounce_18 : decode cX0_bounce 18 = .ok (.getfield 33, 3) := by decide +kernel
theorem dX0_bounce_21 : decode cX0_bounce 21 = .ok (.iconst 1, 1) := by decide +kernel
theorem dX0_bounce_22 : decode cX0_bounce 22 = .ok (.iadd, 1) := by decide +kernel
theorem dX0_bounce_23 : decode cX0_bounce 23 = .ok (.putfield 33, 3) := by decide +kernel
theorem dX0_bounce_26 : decode cX0_bounce 26 = .ok (.aload_n 0, 1) := by decide +kernel
theorem dX0_bounce_27 : decode cX0_bounce 27 = .ok (.getfield 30, 3) := by decide +kernel
theorem dX0_bounce_30 : decode cX0_bounce 30 = .ok (.ifCond .ne 11, 3) := by decide +kernel
theorem dX0_bounce_33 : decode cX0_bounce 33 = .ok (.aload_n 0, 1) := by decide +kernel
theorem dX0_bounce_34 : decode cX0_bounce 34 = .ok (.iconst 1, 1) := by decide +kernel
theorem dX0_bounce_35 : decode cX0_bounce 35 = .ok (.putfield 42, 3) := by decide +kernel
theorem dX0_bounce_38 : decode cX0_bounce 38 = .ok (.goto 16, 3) := by decide +kernel
theorem dX0_bounce_41 : decode cX0_bounce 41 = .ok (.aload_n 0, 1) := by decide +kernel
theorem dX0_bounce_42 : decode cX0_bounce 42 = .ok (.getfield 33, 3) := by decide +kernel
theorem dX0_bounce_45 : decode cX0_bounce 45 = .ok (.iconst 2, 1) := by decide +kernel
theorem dX0_bounce_46 : decode cX0_bounce 46 = .ok (.if_icmp .ne 8, 3) := by decide +kernel
theorem dX0_bounce_49 : decode cX0_bounce 49 = .ok (.aload_n 0, 1) := by decide +kernel
theorem dX0_bounce_50 : decode cX0_bounce 50 = .ok (.iconst 3, 1) := by decide +kernel
theorem dX0_bounce_51 : decode cX0_bounce 51 = .ok (.putfield 42, 3) := by decide +kernel
theorem dX0_bounce_54 : decode cX0_bounce 54 = .ok (.return_, 1) := by decide +kernel
theorem dX0_isButtress_0 : decode cX0_isButtress 0 = .ok (.iload_n 0, 1) := by decide +kernel
theorem dX0_isButtress_1 : decode cX0_isButtress 1 = .ok (.iconst 1, 1) := by decide +kernel
theorem dX0_isButtress_2 : decode cX0_isButtress 2 = .ok (.if_icmp .gt 19, 3) := by decide +kernel
theorem dX0_isButtress_5 : decode cX0_isButtress 5 = .ok (.iload_n 1, 1) := by decide +kernel
theorem dX0_isButtress_6 : decode cX0_isButtress 6 = .ok (.bipush 10, 2) := by decide +kernel
theorem dX0_isButtress_8 : decode cX0_isButtress 8 = .ok (.if_icmp .lt 13, 3) := by decide +kernel
theorem dX0_isButtress_11 : decode cX0_isButtress 11 = .ok (.iload_n 1, 1) := by decide +kernel
theorem dX0_isButtress_12 : decode cX0_isButtress 12 = .ok (.bipush 12, 2) := by decide +kernel
theorem dX0_isButtress_14 : decode cX0_isButtress 14 = .ok (.if_icmp .gt 7, 3) := by decide +kernel
theorem dX0_isButtress_17 : decode cX0_isButtress 17 = .ok (.iconst 1, 1) := by decide +kernel
theorem dX0_isButtress_18 : decode cX0_isButtress 18 = .ok (.goto 4, 3) := by decide +kernel
theorem dX0_isButtress_21 : decode cX0_isButtress 21 = .ok (.iconst 0, 1) := by decide +kernel
theorem dX0_isButtress_22 : decode cX0_isButtress 22 = .ok (.ireturn, 1) := by decide +kernel
theorem dX0_part_0 : decode cX0_part 0 = .ok (.iload_n 1, 1) := by decide +kernel
theorem dX0_part_1 : decode cX0_part 1 = .ok (.tableswitch 87 0 7 #[47, 52, 57, 62, 67, 72, 77, 82], 47) := by decide +kernel
theorem dX0_part_48 : decode cX0_part 48 = .ok (.aload_n 0, 1) := by decide +kernel
theorem dX0_part_49 : decode cX0_part 49 = .ok (.getfield 9, 3) := by decide +kernel
theorem dX0_part_52 : decode cX0_part 52 = .ok (.ireturn, 1) := by decide +kernel
theorem dX0_part_53 : decode cX0_part 53 = .ok (.aload_n 0, 1) := by decide +kernel
theorem dX0_part_54 : decode cX0_part 54 = .ok (.getfield 15, 3) := by decide +kernel
theorem dX0_part_57 : decode cX0_part 57 = .ok (.ireturn, 1) := by decide +kernel
theorem dX0_part_58 : decode cX0_part 58 = .ok (.aload_n 0, 1) := by decide +kernel
theorem dX0_part_59 : decode cX0_part 59 = .ok (.getfield 18, 3) := by decide +kernel
theorem dX0_part_62 : decode cX0_part 62 = .ok (.ireturn, 1) := by decide +kernel
theorem dX0_part_63 : decode cX0_part 63 = .ok (.aload_n 0, 1) := by decide +kernel
theorem dX0_part_64 : decode cX0_part 64 = .ok (.getfield 21, 3) := by decide +kernel
theorem dX0_part_67 : decode cX0_part 67 = .ok (.ireturn, 1) := by decide +kernel
theorem dX0_part_68 : decode cX0_part 68 = .ok (.aload_n 0, 1) := by decide +kernel
theorem dX0_part_69 : decode cX0_part 69 = .ok (.getfield 24, 3) := by decide +kernel
theorem dX0_part_72 : decode cX0_part 72 = .ok (.ireturn, 1) := by decide +kernel
theorem dX0_part_73 : decode cX0_part 73 = .ok (.aload_n 0, 1) := by decide +kernel
theorem dX0_part_74 : decode cX0_part 74 = .ok (.getfield 27, 3) := by decide +kernel
theorem dX0_part_77 : decode cX0_part 77 = .ok (.ireturn, 1) := by decide +kernel
theorem dX0_part_78 : decode cX0_part 78 = .ok (.aload_n 0, 1) := by decide +kernel
theorem dX0_part_79 : decode cX0_part 79 = .ok (.getfield 30, 3) := by decide +kernel
theorem dX0_part_82 : decode cX0_part 82 = .ok (.ireturn, 1) := by decide +kernel
theorem dX0_part_83 : decode cX0_part 83 = .ok (.aload_n 0, 1) := by decide +kernel
theorem dX0_part_84 : decode cX0_part 84 = .ok (.getfield 33, 3) := by decide +kernel
theorem dX0_part_87 : decode cX0_part 87 = .ok (.ireturn, 1) := by decide +kernel
theorem dX0_part_88 : decode cX0_part 88 = .ok (.aload_n 0, 1) := by decide +kernel
theorem dX0_part_89 : decode cX0_part 89 = .ok (.getfield 36, 3) := by decide +kernel
theorem dX0_part_92 : decode cX0_part 92 = .ok (.ireturn, 1) := by decide +kernel
theorem dX0_endPart_0 : decode cX0_endPart 0 = .ok (.iload_n 1, 1) := by decide +kernel
theorem dX0_endPart_1 : decode cX0_endPart 1 = .ok (.tableswitch 51 0 3 #[31, 36, 41, 46], 31) := by decide +kernel
theorem dX0_endPart_32 : decode cX0_endPart 32 = .ok (.aload_n 0, 1) := by decide +kernel
theorem dX0_endPart_33 : decode cX0_endPart 33 = .ok (.getfield 42, 3) := by decide +kernel
theorem dX0_endPart_36 : decode cX0_endPart 36 = .ok (.ireturn, 1) := by decide +kernel
theorem dX0_endPart_37 : decode cX0_endPart 37 = .ok (.aload_n 0, 1) := by decide +kernel
theorem dX0_endPart_38 : decode cX0_endPart 38 = .ok (.getfield 39, 3) := by decide +kernel
theorem dX0_endPart_41 : decode cX0_endPart 41 = .ok (.ireturn, 1) := by decide +kernel
theorem dX0_endPart_42 : decode cX0_endPart 42 = .ok (.aload_n 0, 1) := by decide +kernel
theorem dX0_endPart_43 : decode cX0_endPart 43 = .ok (.getfield 30, 3) := by decide +kernel
theorem dX0_endPart_46 : decode cX0_endPart 46 = .ok (.ireturn, 1) := by decide +kernel
theorem dX0_endPart_47 : decode cX0_endPart 47 = .ok (.aload_n 0, 1) := by decide +kernel
theorem dX0_endPart_48 : decode cX0_endPart 48 = .ok (.getfield 33, 3) := by decide +kernel
theorem dX0_endPart_51 : decode cX0_endPart 51 = .ok (.ireturn, 1) := by decide +kernel
theorem dX0_endPart_52 : decode cX0_endPart 52 = .ok (.aload_n 0, 1) := by decide +kernel
theorem dX0_endPart_53 : decode cX0_endPart 53 = .ok (.getfield 36, 3) := by decide +kernel
theorem dX0_endPart_56 : decode cX0_endPart 56 = .ok (.ireturn, 1) := by decide +kernel
theorem dX1_init_0 : decode cX1_init 0 = .ok (.aload_n 0, 1) := by decide +kernel
theorem dX1_init_1 : decode cX1_init 1 = .ok (.invokespecial 1, 3) := by decide +kernel
theorem dX1_init_4 : decode cX1_init 4 = .ok (.return_, 1) := by decide +kernel
theorem dX1_part_0 : decode cX1_part 0 = .ok (.iload_n 1, 1) := by decide +kernel
theorem dX1_part_1 : decode cX1_part 1 = .ok (.tableswitch 42 0 2 #[27, 32, 37], 27) := by decide +kernel
theorem dX1_part_28 : decode cX1_part 28 = .ok (.aload_n 0, 1) := by decide +kernel
theorem dX1_part_29 : decode cX1_part 29 = .ok (.getfield 7, 3) := by decide +kernel
theorem dX1_part_32 : decode cX1_part 32 = .ok (.ireturn, 1) := by decide +kernel
theorem dX1_part_33 : decode cX1_part 33 = .ok (.aload_n 0, 1) := by decide +kernel
theorem dX1_part_34 : decode cX1_part 34 = .ok (.getfield 13, 3) := by decide +kernel
theorem dX1_part_37 : decode cX1_part 37 = .ok (.ireturn, 1) := by decide +kernel
theorem dX1_part_38 : decode cX1_part 38 = .ok (.aload_n 0, 1) := by decide +kernel
theorem dX1_part_39 : decode cX1_part 39 = .ok (.getfield 16, 3) := by decide +kernel
theorem dX1_part_42 : decode cX1_part 42 = .ok (.ireturn, 1) := by decide +kernel
theorem dX1_part_43 : decode cX1_part 43 = .ok (.aload_n 0, 1) := by decide +kernel
theorem dX1_part_44 : decode cX1_part 44 = .ok (.getfield 19, 3) := by decide +kernel
theorem dX1_part_47 : decode cX1_part 47 = .ok (.ireturn, 1) := by decide +kernel
theorem dX1_beginMatch_0 : decode cX1_beginMatch 0 = .ok (.aload_n 0, 1) := by decide +kernel
theorem dX1_beginMatch_1 : decode cX1_beginMatch 1 = .ok (.iconst 0, 1) := by decide +kernel
theorem dX1_beginMatch_2 : decode cX1_beginMatch 2 = .ok (.putfield 13, 3) := by decide +kernel
theorem dX1_beginMatch_5 : decode cX1_beginMatch 5 = .ok (.aload_n 0, 1) := by decide +kernel
theorem dX1_beginMatch_6 : decode cX1_beginMatch 6 = .ok (.iconst 0, 1) := by decide +kernel
theorem dX1_beginMatch_7 : decode cX1_beginMatch 7 = .ok (.putfield 16, 3) := by decide +kernel
theorem dX1_beginMatch_10 : decode cX1_beginMatch 10 = .ok (.aload_n 0, 1) := by decide +kernel
theorem dX1_beginMatch_11 : decode cX1_beginMatch 11 = .ok (.iconst 0, 1) := by decide +kernel
theorem dX1_beginMatch_12 : decode cX1_beginMatch 12 = .ok (.putfield 19, 3) := by decide +kernel
theorem dX1_beginMatch_15 : decode cX1_beginMatch 15 = .ok (.return_, 1) := by decide +kernel
theorem dX2_init_0 : decode cX2_init 0 = .ok (.aload_n 0, 1) := by decide +kernel
theorem dX2_init_1 : decode cX2_init 1 = .ok (.invokespecial 1, 3) := by decide +kernel
theorem dX2_init_4 : decode cX2_init 4 = .ok (.aload_n 0, 1) := by decide +kernel
theorem dX2_init_5 : decode cX2_init 5 = .ok (.new 7, 3) := by decide +kernel
theorem dX2_init_8 : decode cX2_init 8 = .ok (.dup, 1) := by decide +kernel
theorem dX2_init_9 : decode cX2_init 9 = .ok (.invokespecial 9, 3) := by decide +kernel
theorem dX2_init_12 : decode cX2_init 12 = .ok (.putfield 10, 3) := by decide +kernel
theorem dX2_init_15 : decode cX2_init 15 = .ok (.aload_n 0, 1) := by decide +kernel
theorem dX2_init_16 : decode cX2_init 16 = .ok (.new 7, 3) := by decide +kernel
theorem dX2_init_19 : decode cX2_init 19 = .ok (.dup, 1) := by decide +kernel
theorem dX2_init_20 : decode cX2_init 20 = .ok (.invokespecial 9, 3) := by decide +kernel
theorem dX2_init_23 : decode cX2_init 23 = .ok (.putfield 16, 3) := by decide +kernel
theorem dX2_init_26 : decode cX2_init 26 = .ok (.aload_n 0, 1) := by decide +kernel
theorem dX2_init_27 : decode cX2_init 27 = .ok (.new 19, 3) := by decide +kernel
theorem dX2_init_30 : decode cX2_init 30 = .ok (.dup, 1) := by decide +kernel
theorem dX2_init_31 : decode cX2_init 31 = .ok (.invokespecial 21, 3) := by decide +kernel
theorem dX2_init_34 : decode cX2_init 34 = .ok (.putfield 22, 3) := by decide +kernel
theorem dX2_init_37 : decode cX2_init 37 = .ok (.aload_n 0, 1) := by decide +kernel
theorem dX2_init_38 : decode cX2_init 38 = .ok (.new 19, 3) := by decide +kernel
theorem dX2_init_41 : decode cX2_init 41 = .ok (.dup, 1) := by decide +kernel
theorem dX2_init_42 : decode cX2_init 42 = .ok (.invokespecial 21, 3) := by decide +kernel
theorem dX2_init_45 : decode cX2_init 45 = .ok (.putfield 26, 3) := by decide +kernel
theorem dX2_init_48 : decode cX2_init 48 = .ok (.aload_n 0, 1) := by decide +kernel
theorem dX2_init_49 : decode cX2_init 49 = .ok (.new 19, 3) := by decide +kernel
theorem dX2_init_52 : decode cX2_init 52 = .ok (.dup, 1) := by decide +kernel
theorem dX2_init_53 : decode cX2_init 53 = .ok (.invokespecial 21, 3) := by decide +kernel
theorem dX2_init_56 : decode cX2_init 56 = .ok (.putfield 29, 3) := by decide +kernel
theorem dX2_init_59 : decode cX2_init 59 = .ok (.aload_n 0, 1) := by decide +kernel
theorem dX2_init_60 : decode cX2_init 60 = .ok (.new 19, 3) := by decide +kernel
theorem dX2_init_63 : decode cX2_init 63 = .ok (.dup, 1) := by decide +kernel
theorem dX2_init_64 : decode cX2_init 64 = .ok (.invokespecial 21, 3) := by decide +kernel
theorem dX2_init_67 : decode cX2_init 67 = .ok (.putfield 32, 3) := by decide +kernel
theorem dX2_init_70 : decode cX2_init 70 = .ok (.aload_n 0, 1) := by decide +kernel
theorem dX2_init_71 : decode cX2_init 71 = .ok (.iconst 0, 1) := by decide +kernel
theorem dX2_init_72 : decode cX2_init 72 = .ok (.putfield 35, 3) := by decide +kernel
theorem dX2_init_75 : decode cX2_init 75 = .ok (.aload_n 0, 1) := by decide +kernel
theorem dX2_init_76 : decode cX2_init 76 = .ok (.bipush 12, 2) := by decide +kernel
theorem dX2_init_78 : decode cX2_init 78 = .ok (.putfield 39, 3) := by decide +kernel
theorem dX2_init_81 : decode cX2_init 81 = .ok (.aload_n 0, 1) := by decide +kernel
theorem dX2_init_82 : decode cX2_init 82 = .ok (.iconst (-1), 1) := by decide +kernel
theorem dX2_init_83 : decode cX2_init 83 = .ok (.putfield 42, 3) := by decide +kernel
theorem dX2_init_86 : decode cX2_init 86 = .ok (.return_, 1) := by decide +kernel
theorem dX2_serve_0 : decode cX2_serve 0 = .ok (.iload_n 1, 1) := by decide +kernel
theorem dX2_serve_1 : decode cX2_serve 1 = .ok (.iload_n 2, 1) := by decide +kernel
theorem dX2_serve_2 : decode cX2_serve 2 = .ok (.iload_n 3, 1) := by decide +kernel
theorem dX2_serve_3 : decode cX2_serve 3 = .ok (.invokestatic 45, 3) := by decide +kernel
theorem dX2_serve_6 : decode cX2_serve 6 = .ok (.ifCond .ne 13, 3) := by decide +kernel
theorem dX2_serve_9 : decode cX2_serve 9 = .ok (.new 49, 3) := by decide +kernel
theorem dX2_serve_12 : decode cX2_serve 12 = .ok (.dup, 1) := by decide +kernel
theorem dX2_serve_13 : decode cX2_serve 13 = .ok (.ldc 51, 2) := by decide +kernel
theorem dX2_serve_15 : decode cX2_serve 15 = .ok (.invokespecial 53, 3) := by decide +kernel
theorem dX2_serve_18 : decode cX2_serve 18 = .ok (.athrow, 1) := by decide +kernel
theorem dX2_serve_19 : decode cX2_serve 19 = .ok (.aload_n 0, 1) := by decide +kernel
theorem dX2_serve_20 : decode cX2_serve 20 = .ok (.getfield 56, 3) := by decide +kernel
theorem dX2_serve_23 : decode cX2_serve 23 = .ok (.ifCond .ne 10, 3) := by decide +kernel
theorem dX2_serve_26 : decode cX2_serve 26 = .ok (.aload_n 0, 1) := by decide +kernel
theorem dX2_serve_27 : decode cX2_serve 27 = .ok (.invokevirtual 60, 3) := by decide +kernel
theorem dX2_serve_30 : decode cX2_serve 30 = .ok (.ifCond .eq 13, 3) := by decide +kernel
theorem dX2_serve_33 : decode cX2_serve 33 = .ok (.new 64, 3) := by decide +kernel
theorem dX2_serve_36 : decode cX2_serve 36 = .ok (.dup, 1) := by decide +kernel
theorem dX2_serve_37 : decode cX2_serve 37 = .ok (.ldc 66, 2) := by decide +kernel
theorem dX2_serve_39 : decode cX2_serve 39 = .ok (.invokespecial 68, 3) := by decide +kernel
theorem dX2_serve_42 : decode cX2_serve 42 = .ok (.athrow, 1) := by decide +kernel
theorem dX2_serve_43 : decode cX2_serve 43 = .ok (.aload_n 0, 1) := by decide +kernel
theorem dX2_serve_44 : decode cX2_serve 44 = .ok (.getfield 22, 3) := by decide +kernel
theorem dX2_serve_47 : decode cX2_serve 47 = .ok (.invokevirtual 69, 3) := by decide +kernel
theorem dX2_serve_50 : decode cX2_serve 50 = .ok (.aload_n 0, 1) := by decide +kernel
theorem dX2_serve_51 : decode cX2_serve 51 = .ok (.iconst 1, 1) := by decide +kernel
theorem dX2_serve_52 : decode cX2_serve 52 = .ok (.putfield 56, 3) := by decide +kernel
theorem dX2_serve_55 : decode cX2_serve 55 = .ok (.aload_n 0, 1) := by decide +kernel
theorem dX2_serve_56 : decode cX2_serve 56 = .ok (.aload_n 0, 1) := by decide +kernel
theorem dX2_serve_57 : decode cX2_serve 57 = .ok (.getfield 35, 3) := by decide +kernel
theorem dX2_serve_60 : decode cX2_serve 60 = .ok (.iload_n 1, 1) := by decide +kernel
theorem dX2_serve_61 : decode cX2_serve 61 = .ok (.iload_n 2, 1) := by decide +kernel
theorem dX2_serve_62 : decode cX2_serve 62 = .ok (.iload_n 3, 1) := by decide +kernel
theorem dX2_serve_63 : decode cX2_serve 63 = .ok (.invokevirtual 72, 3) := by decide +kernel
theorem dX2_serve_66 : decode cX2_serve 66 = .ok (.aload_n 0, 1) := by decide +kernel
theorem dX2_serve_67 : decode cX2_serve 67 = .ok (.getfield 35, 3) := by decide +kernel
theorem dX2_serve_70 : decode cX2_serve 70 = .ok (.ireturn, 1) := by decide +kernel
theorem dX2_strike_0 : decode cX2_strike 0 = .ok (.iload_n 1, 1) := by decide +kernel
theorem dX2_strike_1 : decode cX2_strike 1 = .ok (.iconst 1, 1) := by decide +kernel
theorem dX2_strike_2 : decode cX2_strike 2 = .ok (.if_icmp .lt 19, 3) := by decide +kernel
theorem dX2_strike_5 : decode cX2_strike 5 = .ok (.iload_n 1, 1) := by decide +kernel
theorem dX2_strike_6 : decode cX2_strike 6 = .ok (.bipush 60, 2) := by decide +kernel
theorem dX2_strike_8 : decode cX2_strike 8 = .ok (.if_icmp .gt 13, 3) := by decide +kernel
theorem dX2_strike_11 : decode cX2_strike 11 = .ok (.iload_n 2, 1) := by decide +kernel
theorem dX2_strike_12 : decode cX2_strike 12 = .ok (.iload_n 3, 1) := by decide +kernel
theorem dX2_strike_13 : decode cX2_strike 13 = .ok (.iload 4, 2) := by decide +kernel
theorem dX2_strike_15 : decode cX2_strike 15 = .ok (.invokestatic 45, 3) := by decide +kernel
theorem dX2_strike_18 : decode cX2_strike 18 = .ok (.ifCond .ne 13, 3) := by decide +kernel
theorem dX2_strike_21 : decode cX2_strike 21 = .ok (.new 49, 3) := by decide +kernel
theorem dX2_strike_24 : decode cX2_strike 24 = .ok (.dup, 1) := by decide +kernel
theorem dX2_strike_25 : decode cX2_strike 25 = .ok (.ldc 51, 2) := by decide +kernel
theorem dX2_strike_27 : decode cX2_strike 27 = .ok (.invokespecial 53, 3) := by decide +kernel
theorem dX2_strike_30 : decode cX2_strike 30 = .ok (.athrow, 1) := by decide +kernel
theorem dX2_strike_31 : decode cX2_strike 31 = .ok (.aload_n 0, 1) := by decide +kernel
theorem dX2_strike_32 : decode cX2_strike 32 = .ok (.getfield 56, 3) := by decide +kernel
theorem dX2_strike_35 : decode cX2_strike 35 = .ok (.ifCond .ne 13, 3) := by decide +kernel
theorem dX2_strike_38 : decode cX2_strike 38 = .ok (.new 64, 3) := by decide +kernel
theorem dX2_strike_41 : decode cX2_strike 41 = .ok (.dup, 1) := by decide +kernel
theorem dX2_strike_42 : decode cX2_strike 42 = .ok (.ldc 76, 2) := by decide +kernel
theorem dX2_strike_44 : decode cX2_strike 44 = .ok (.invokespecial 68, 3) := by decide +kernel
theorem dX2_strike_47 : decode cX2_strike 47 = .ok (.athrow, 1) := by decide +kernel
theorem dX2_strike_48 : decode cX2_strike 48 = .ok (.aload_n 0, 1) := by decide +kernel
theorem dX2_strike_49 : decode cX2_strike 49 = .ok (.iload_n 1, 1) := by decide +kernel
theorem dX2_strike_50 : decode cX2_strike 50 = .ok (.invokevirtual 78, 3) := by decide +kernel
theorem dX2_strike_53 : decode cX2_strike 53 = .ok (.ifCond .eq 12, 3) := by decide +kernel
theorem dX2_strike_56 : decode cX2_strike 56 = .ok (.aload_n 0, 1) := by decide +kernel
theorem dX2_strike_57 : decode cX2_strike 57 = .ok (.aload_n 0, 1) := by decide +kernel
theorem dX2_strike_58 : decode cX2_strike 58 = .ok (.invokevirtual 82, 3) := by decide +kernel
theorem dX2_strike_61 : decode cX2_strike 61 = .ok (.invokevirtual 86, 3) := by decide +kernel
theorem dX2_strike_64 : decode cX2_strike 64 = .ok (.ireturn, 1) := by decide +kernel
theorem dX2_strike_65 : decode cX2_strike 65 = .ok (.aload_n 0, 1) := by decide +kernel
theorem dX2_strike_66 : decode cX2_strike 66 = .ok (.iload_n 1, 1) := by decide +kernel
theorem dX2_strike_67 : decode cX2_strike 67 = .ok (.invokevirtual 90, 3) := by decide +kernel
theorem dX2_strike_70 : decode cX2_strike 70 = .ok (.aload_n 0, 1) := by decide +kernel
theorem dX2_strike_71 : decode cX2_strike 71 = .ok (.getfield 29, 3) := by decide +kernel
theorem dX2_strike_74 : decode cX2_strike 74 = .ok (.getfield 94, 3) := by decide +kernel
theorem dX2_strike_77 : decode cX2_strike 77 = .ok (.ifCond .ne 9, 3) := by decide +kernel
theorem dX2_strike_80 : decode cX2_strike 80 = .ok (.aload_n 0, 1) := by decide +kernel
theorem dX2_strike_81 : decode cX2_strike 81 = .ok (.invokevirtual 97, 3) := by decide +kernel
theorem dX2_strike_84 : decode cX2_strike 84 = .ok (.iconst 1, 1) := by decide +kernel
theorem dX2_strike_85 : decode cX2_strike 85 = .ok (.ireturn, 1) := by decide +kernel
theorem dX2_strike_86 : decode cX2_strike 86 = .ok (.aload_n 0, 1) := by decide +kernel
theorem dX2_strike_87 : decode cX2_strike 87 = .ok (.getfield 22, 3) := by decide +kernel
theorem dX2_strike_90 : decode cX2_strike 90 = .ok (.aload_n 0, 1) := by decide +kernel
theorem dX2_strike_91 : decode cX2_strike 91 = .ok (.getfield 29, 3) := by decide +kernel
theorem dX2_strike_94 : decode cX2_strike 94 = .ok (.invokevirtual 100, 3) := by decide +kernel
theorem dX2_strike_97 : decode cX2_strike 97 = .ok (.aload_n 0, 1) := by decide +kernel
theorem dX2_strike_98 : decode cX2_strike 98 = .ok (.aload_n 0, 1) := by decide +kernel
theorem dX2_strike_99 : decode cX2_strike 99 = .ok (.invokevirtual 104, 3) := by decide +kernel
theorem dX2_strike_102 : decode cX2_strike 102 = .ok (.iload_n 2, 1) := by decide +kernel
theorem dX2_strike_103 : decode cX2_strike 103 = .ok (.iload_n 3, 1) := by decide +kernel
theorem dX2_strike_104 : decode cX2_strike 104 = .ok (.iload 4, 2) := by decide +kernel
theorem dX2_strike_106 : decode cX2_strike 106 = .ok (.invokevirtual 72, 3) := by decide +kernel
theorem dX2_strike_109 : decode cX2_strike 109 = .ok (.iconst 0, 1) := by decide +kernel
theorem dX2_strike_110 : decode cX2_strike 110 = .ok (.ireturn, 1) := by decide +kernel
theorem dX2_leave_0 : decode cX2_leave 0 = .ok (.aload_n 0, 1) := by decide +kernel
theorem dX2_leave_1 : decode cX2_leave 1 = .ok (.getfield 56, 3) := by decide +kernel
theorem dX2_leave_4 : decode cX2_leave 4 = .ok (.ifCond .ne 13, 3) := by decide +kernel
theorem dX2_leave_7 : decode cX2_leave 7 = .ok (.new 64, 3) := by decide +kernel
theorem dX2_leave_10 : decode cX2_leave 10 = .ok (.dup, 1) := by decide +kernel
theorem dX2_leave_11 : decode cX2_leave 11 = .ok (.ldc 76, 2) := by decide +kernel
theorem dX2_leave_13 : decode cX2_leave 13 = .ok (.invokespecial 68, 3) := by decide +kernel
theorem dX2_leave_16 : decode cX2_leave 16 = .ok (.athrow, 1) := by decide +kernel
theorem dX2_leave_17 : decode cX2_leave 17 = .ok (.aload_n 0, 1) := by decide +kernel
theorem dX2_leave_18 : decode cX2_leave 18 = .ok (.aload_n 0, 1) := by decide +kernel
theorem dX2_leave_19 : decode cX2_leave 19 = .ok (.invokevirtual 82, 3) := by decide +kernel
theorem dX2_leave_22 : decode cX2_leave 22 = .ok (.invokevirtual 86, 3) := by decide +kernel
theorem dX2_leave_25 : decode cX2_leave 25 = .ok (.ireturn, 1) := by decide +kernel
theorem dX2_let_0 : decode cX2_let 0 = .ok (.aload_n 0, 1) := by decide +kernel
theorem dX2_let_1 : decode cX2_let 1 = .ok (.getfield 56, 3) := by decide +kernel
theorem dX2_let_4 : decode cX2_let 4 = .ok (.ifCond .ne 13, 3) := by decide +kernel
theorem dX2_let_7 : decode cX2_let 7 = .ok (.new 64, 3) := by decide +kernel
theorem dX2_let_10 : decode cX2_let 10 = .ok (.dup, 1) := by decide +kernel
theorem dX2_let_11 : decode cX2_let 11 = .ok (.ldc 76, 2) := by decide +kernel
theorem dX2_let_13 : decode cX2_let 13 = .ok (.invokespecial 68, 3) := by decide +kernel
theorem dX2_let_16 : decode cX2_let 16 = .ok (.athrow, 1) := by decide +kernel
theorem dX2_let_17 : decode cX2_let 17 = .ok (.aload_n 0, 1) := by decide +kernel
theorem dX2_let_18 : decode cX2_let 18 = .ok (.getfield 107, 3) := by decide +kernel
theorem dX2_let_21 : decode cX2_let 21 = .ok (.istore_n 1, 1) := by decide +kernel
theorem dX2_let_22 : decode cX2_let 22 = .ok (.aload_n 0, 1) := by decide +kernel
theorem dX2_let_23 : decode cX2_let 23 = .ok (.invokevirtual 97, 3) := by decide +kernel
theorem dX2_let_26 : decode cX2_let 26 = .ok (.iload_n 1, 1) := by decide +kernel
theorem dX2_let_27 : decode cX2_let 27 = .ok (.ireturn, 1) := by decide +kernel
theorem dX2_set_0 : decode cX2_set 0 = .ok (.iload_n 1, 1) := by decide +kernel
theorem dX2_set_1 : decode cX2_set 1 = .ok (.iconst 3, 1) := by decide +kernel
theorem dX2_set_2 : decode cX2_set 2 = .ok (.if_icmp .eq 18, 3) := by decide +kernel
theorem dX2_set_5 : decode cX2_set 5 = .ok (.iload_n 1, 1) := by decide +kernel
theorem dX2_set_6 : decode cX2_set 6 = .ok (.iconst 5, 1) := by decide +kernel
theorem dX2_set_7 : decode cX2_set 7 = .ok (.if_icmp .eq 13, 3) := by decide +kernel
theorem dX2_set_10 : decode cX2_set 10 = .ok (.new 49, 3) := by decide +kernel
theorem dX2_set_13 : decode cX2_set 13 = .ok (.dup, 1) := by decide +kernel
theorem dX2_set_14 : decode cX2_set 14 = .ok (.ldc 110, 2) := by decide +kernel
theorem dX2_set_16 : decode cX2_set 16 = .ok (.invokespecial 53, 3) := by decide +kernel
theorem dX2_set_19 : decode cX2_set 19 = .ok (.athrow, 1) := by decide +kernel
theorem dX2_set_20 : decode cX2_set 20 = .ok (.aload_n 0, 1) := by decide +kernel
theorem dX2_set_21 : decode cX2_set 21 = .ok (.invokevirtual 112, 3) := by decide +kernel
theorem dX2_set_24 : decode cX2_set 24 = .ok (.ifCond .ne 13, 3) := by decide +kernel
theorem dX2_set_27 : decode cX2_set 27 = .ok (.new 64, 3) := by decide +kernel
theorem dX2_set_30 : decode cX2_set 30 = .ok (.dup, 1) := by decide +kernel
theorem dX2_set_31 : decode cX2_set 31 = .ok (.ldc 115, 2) := by decide +kernel
theorem dX2_set_33 : decode cX2_set 33 = .ok (.invokespecial 68, 3) := by decide +kernel
theorem dX2_set_36 : decode cX2_set 36 = .ok (.athrow, 1) := by decide +kernel
theorem dX2_set_37 : decode cX2_set 37 = .ok (.aload_n 0, 1) := by decide +kernel
theorem dX2_set_38 : decode cX2_set 38 = .ok (.aload_n 0, 1) := by decide +kernel
theorem dX2_set_39 : decode cX2_set 39 = .ok (.getfield 10, 3) := by decide +kernel
theorem dX2_set_42 : decode cX2_set 42 = .ok (.getfield 117, 3) := by decide +kernel
theorem dX2_set_45 : decode cX2_set 45 = .ok (.iload_n 1, 1) := by decide +kernel
theorem dX2_set_46 : decode cX2_set 46 = .ok (.iadd, 1) := by decide +kernel
theorem dX2_set_47 : decode cX2_set 47 = .ok (.putfield 39, 3) := by decide +kernel
theorem dX2_set_50 : decode cX2_set 50 = .ok (.aload_n 0, 1) := by decide +kernel
theorem dX2_set_51 : decode cX2_set 51 = .ok (.getfield 39, 3) := by decide +kernel
theorem dX2_set_54 : decode cX2_set 54 = .ok (.ireturn, 1) := by decide +kernel
theorem dX2_match_0 : decode cX2_match 0 = .ok (.iload_n 1, 1) := by decide +kernel
theorem dX2_match_1 : decode cX2_match 1 = .ok (.invokestatic 120, 3) := by decide +kernel
theorem dX2_match_4 : decode cX2_match 4 = .ok (.ifCond .ne 13, 3) := by decide +kernel
theorem dX2_match_7 : decode cX2_match 7 = .ok (.new 123, 3) := by decide +kernel
theorem dX2_match_10 : decode cX2_match 10 = .ok (.dup, 1) := by decide +kernel
theorem dX2_match_11 : decode cX2_match 11 = .ok (.ldc 125, 2) := by decide +kernel
theorem dX2_match_13 : decode cX2_match 13 = .ok (.invokespecial 127, 3) := by decide +kernel
theorem dX2_match_16 : decode cX2_match 16 = .ok (.athrow, 1) := by decide +kernel
theorem dX2_match_17 : decode cX2_match 17 = .ok (.aload_n 0, 1) := by decide +kernel
theorem dX2_match_18 : decode cX2_match 18 = .ok (.getfield 10, 3) := by decide +kernel
theorem dX2_match_21 : decode cX2_match 21 = .ok (.getfield 128, 3) := by decide +kernel
theorem dX2_match_24 : decode cX2_match 24 = .ok (.aload_n 0, 1) := by decide +kernel
theorem dX2_match_25 : decode cX2_match 25 = .ok (.getfield 16, 3) := by decide +kernel
theorem dX2_match_28 : decode cX2_match 28 = .ok (.getfield 128, 3) := by decide +kernel
theorem dX2_match_31 : decode cX2_match 31 = .ok (.iadd, 1) := by decide +kernel
theorem dX2_match_32 : decode cX2_match 32 = .ok (.istore_n 2, 1) := by decide +kernel
theorem dX2_match_33 : decode cX2_match 33 = .ok (.aload_n 0, 1) := by decide +kernel
theorem dX2_match_34 : decode cX2_match 34 = .ok (.invokevirtual 131, 3) := by decide +kernel
theorem dX2_match_37 : decode cX2_match 37 = .ok (.aload_n 0, 1) := by decide +kernel
theorem dX2_match_38 : decode cX2_match 38 = .ok (.invokevirtual 134, 3) := by decide +kernel
theorem dX2_match_41 : decode cX2_match 41 = .ok (.aload_n 0, 1) := by decide +kernel
theorem dX2_match_42 : decode cX2_match 42 = .ok (.getfield 10, 3) := by decide +kernel
theorem dX2_match_45 : decode cX2_match 45 = .ok (.invokevirtual 137, 3) := by decide +kernel
theorem dX2_match_48 : decode cX2_match 48 = .ok (.aload_n 0, 1) := by decide +kernel
theorem dX2_match_49 : decode cX2_match 49 = .ok (.getfield 16, 3) := by decide +kernel
theorem dX2_match_52 : decode cX2_match 52 = .ok (.invokevirtual 137, 3) := by decide +kernel
theorem dX2_match_55 : decode cX2_match 55 = .ok (.aload_n 0, 1) := by decide +kernel
theorem dX2_match_56 : decode cX2_match 56 = .ok (.iconst (-1), 1) := by decide +kernel
theorem dX2_match_57 : decode cX2_match 57 = .ok (.putfield 42, 3) := by decide +kernel
theorem dX2_match_60 : decode cX2_match 60 = .ok (.aload_n 0, 1) := by decide +kernel
theorem dX2_match_61 : decode cX2_match 61 = .ok (.iload_n 1, 1) := by decide +kernel
theorem dX2_match_62 : decode cX2_match 62 = .ok (.putfield 35, 3) := by decide +kernel
theorem dX2_match_65 : decode cX2_match 65 = .ok (.iload_n 2, 1) := by decide +kernel
theorem dX2_match_66 : decode cX2_match 66 = .ok (.ireturn, 1) := by decide +kernel
theorem dX2_ball_0 : decode cX2_ball 0 = .ok (.iload_n 1, 1) := by decide +kernel
theorem dX2_ball_1 : decode cX2_ball 1 = .ok (.ifCond .lt 9, 3) := by decide +kernel
theorem dX2_ball_4 : decode cX2_ball 4 = .ok (.iload_n 1, 1) := by decide +kernel
theorem dX2_ball_5 : decode cX2_ball 5 = .ok (.bipush 6, 2) := by decide +kernel
theorem dX2_ball_7 : decode cX2_ball 7 = .ok (.if_icmp .lt 13, 3) := by decide +kernel
theorem dX2_ball_10 : decode cX2_ball 10 = .ok (.new 123, 3) := by decide +kernel
theorem dX2_ball_13 : decode cX2_ball 13 = .ok (.dup, 1) := by decide +kernel
theorem dX2_ball_14 : decode cX2_ball 14 = .ok (.ldc 140, 2) := by decide +kernel
theorem dX2_ball_16 : decode cX2_ball 16 = .ok (.invokespecial 127, 3) := by decide +kernel
theorem dX2_ball_19 : decode cX2_ball 19 = .ok (.athrow, 1) := by decide +kernel
theorem dX2_ball_20 : decode cX2_ball 20 = .ok (.aload_n 0, 1) := by decide +kernel
theorem dX2_ball_21 : decode cX2_ball 21 = .ok (.getfield 56, 3) := by decide +kernel
theorem dX2_ball_24 : decode cX2_ball 24 = .ok (.ifCond .eq 14, 3) := by decide +kernel
theorem dX2_ball_27 : decode cX2_ball 27 = .ok (.aload_n 0, 1) := by decide +kernel
theorem dX2_ball_28 : decode cX2_ball 28 = .ok (.getfield 22, 3) := by decide +kernel
theorem dX2_ball_31 : decode cX2_ball 31 = .ok (.iload_n 1, 1) := by decide +kernel
theorem dX2_ball_32 : decode cX2_ball 32 = .ok (.invokevirtual 142, 3) := by decide +kernel
theorem dX2_ball_35 : decode cX2_ball 35 = .ok (.goto 4, 3) := by decide +kernel
theorem dX2_ball_38 : decode cX2_ball 38 = .ok (.iconst 0, 1) := by decide +kernel
theorem dX2_ball_39 : decode cX2_ball 39 = .ok (.ireturn, 1) := by decide +kernel
theorem dX2_told_0 : decode cX2_told 0 = .ok (.iload_n 1, 1) := by decide +kernel
theorem dX2_told_1 : decode cX2_told 1 = .ok (.invokestatic 120, 3) := by decide +kernel
theorem dX2_told_4 : decode cX2_told 4 = .ok (.ifCond .eq 12, 3) := by decide +kernel
theorem dX2_told_7 : decode cX2_told 7 = .ok (.iload_n 2, 1) := by decide +kernel
theorem dX2_told_8 : decode cX2_told 8 = .ok (.ifCond .lt 8, 3) := by decide +kernel
theorem dX2_told_11 : decode cX2_told 11 = .ok (.iload_n 2, 1) := by decide +kernel
theorem dX2_told_12 : decode cX2_told 12 = .ok (.iconst 4, 1) := by decide +kernel
theorem dX2_told_13 : decode cX2_told 13 = .ok (.if_icmp .lt 13, 3) := by decide +kernel
theorem dX2_told_16 : decode cX2_told 16 = .ok (.new 123, 3) := by decide +kernel
theorem dX2_told_19 : decode cX2_told 19 = .ok (.dup, 1) := by decide +kernel
theorem dX2_told_20 : decode cX2_told 20 = .ok (.ldc 145, 2) := by decide +kernel
theorem dX2_told_22 : decode cX2_told 22 = .ok (.invokespecial 127, 3) := by decide +kernel
theorem dX2_told_25 : decode cX2_told 25 = .ok (.athrow, 1) := by decide +kernel
theorem dX2_told_26 : decode cX2_told 26 = .ok (.aload_n 0, 1) := by decide +kernel
theorem dX2_told_27 : decode cX2_told 27 = .ok (.iload_n 1, 1) := by decide +kernel
theorem dX2_told_28 : decode cX2_told 28 = .ok (.invokevirtual 147, 3) := by decide +kernel
theorem dX2_told_31 : decode cX2_told 31 = .ok (.iload_n 2, 1) := by decide +kernel
theorem dX2_told_32 : decode cX2_told 32 = .ok (.invokevirtual 151, 3) := by decide +kernel
theorem dX2_told_35 : decode cX2_told 35 = .ok (.ireturn, 1) := by decide +kernel
theorem dX2_count_0 : decode cX2_count 0 = .ok (.iload_n 1, 1) := by decide +kernel
theorem dX2_count_1 : decode cX2_count 1 = .ok (.tableswitch 115 0 8 #[51, 56, 72, 77, 82, 87, 92, 105, 110], 51) := by decide +kernel
theorem dX2_count_52 : decode cX2_count 52 = .ok (.aload_n 0, 1) := by decide +kernel
theorem dX2_count_53 : decode cX2_count 53 = .ok (.getfield 35, 3) := by decide +kernel
theorem dX2_count_56 : decode cX2_count 56 = .ok (.ireturn, 1) := by decide +kernel
theorem dX2_count_57 : decode cX2_count 57 = .ok (.aload_n 0, 1) := by decide +kernel
theorem dX2_count_58 : decode cX2_count 58 = .ok (.getfield 56, 3) := by decide +kernel
theorem dX2_count_61 : decode cX2_count 61 = .ok (.ifCond .eq 10, 3) := by decide +kernel
theorem dX2_count_64 : decode cX2_count 64 = .ok (.aload_n 0, 1) := by decide +kernel
theorem dX2_count_65 : decode cX2_count 65 = .ok (.invokevirtual 104, 3) := by decide +kernel
theorem dX2_count_68 : decode cX2_count 68 = .ok (.goto 4, 3) := by decide +kernel
theorem dX2_count_71 : decode cX2_count 71 = .ok (.iconst (-1), 1) := by decide +kernel
theorem dX2_count_72 : decode cX2_count 72 = .ok (.ireturn, 1) := by decide +kernel
theorem dX2_count_73 : decode cX2_count 73 = .ok (.aload_n 0, 1) := by decide +kernel
theorem dX2_count_74 : decode cX2_count 74 = .ok (.getfield 107, 3) := by decide +kernel
theorem dX2_count_77 : decode cX2_count 77 = .ok (.ireturn, 1) := by decide +kernel
theorem dX2_count_78 : decode cX2_count 78 = .ok (.aload_n 0, 1) := by decide +kernel
theorem dX2_count_79 : decode cX2_count 79 = .ok (.getfield 152, 3) := by decide +kernel
theorem dX2_count_82 : decode cX2_count 82 = .ok (.ireturn, 1) := by decide +kernel
theorem dX2_count_83 : decode cX2_count 83 = .ok (.aload_n 0, 1) := by decide +kernel
theorem dX2_count_84 : decode cX2_count 84 = .ok (.getfield 155, 3) := by decide +kernel
theorem dX2_count_87 : decode cX2_count 87 = .ok (.ireturn, 1) := by decide +kernel
theorem dX2_count_88 : decode cX2_count 88 = .ok (.aload_n 0, 1) := by decide +kernel
theorem dX2_count_89 : decode cX2_count 89 = .ok (.getfield 39, 3) := by decide +kernel
theorem dX2_count_92 : decode cX2_count 92 = .ok (.ireturn, 1) := by decide +kernel
theorem dX2_count_93 : decode cX2_count 93 = .ok (.aload_n 0, 1) := by decide +kernel
theorem dX2_count_94 : decode cX2_count 94 = .ok (.invokevirtual 112, 3) := by decide +kernel
theorem dX2_count_97 : decode cX2_count 97 = .ok (.ifCond .eq 7, 3) := by decide +kernel
theorem dX2_count_100 : decode cX2_count 100 = .ok (.iconst 1, 1) := by decide +kernel
theorem dX2_count_101 : decode cX2_count 101 = .ok (.goto 4, 3) := by decide +kernel
theorem dX2_count_104 : decode cX2_count 104 = .ok (.iconst 0, 1) := by decide +kernel
theorem dX2_count_105 : decode cX2_count 105 = .ok (.ireturn, 1) := by decide +kernel
theorem dX2_count_106 : decode cX2_count 106 = .ok (.aload_n 0, 1) := by decide +kernel
theorem dX2_count_107 : decode cX2_count 107 = .ok (.getfield 42, 3) := by decide +kernel
theorem dX2_count_110 : decode cX2_count 110 = .ok (.ireturn, 1) := by decide +kernel
theorem dX2_count_111 : decode cX2_count 111 = .ok (.aload_n 0, 1) := by decide +kernel
theorem dX2_count_112 : decode cX2_count 112 = .ok (.getfield 158, 3) := by decide +kernel
theorem dX2_count_115 : decode cX2_count 115 = .ok (.ireturn, 1) := by decide +kernel
theorem dX2_count_116 : decode cX2_count 116 = .ok (.new 123, 3) := by decide +kernel
theorem dX2_count_119 : decode cX2_count 119 = .ok (.dup, 1) := by decide +kernel
theorem dX2_count_120 : decode cX2_count 120 = .ok (.ldc 161, 2) := by decide +kernel
theorem dX2_count_122 : decode cX2_count 122 = .ok (.invokespecial 127, 3) := by decide +kernel
theorem dX2_count_125 : decode cX2_count 125 = .ok (.athrow, 1) := by decide +kernel
theorem dX2_flight_0 : decode cX2_flight 0 = .ok (.iload_n 1, 1) := by decide +kernel
theorem dX2_flight_1 : decode cX2_flight 1 = .ok (.invokestatic 163, 3) := by decide +kernel
theorem dX2_flight_4 : decode cX2_flight 4 = .ok (.ifCond .ne 13, 3) := by decide +kernel
theorem dX2_flight_7 : decode cX2_flight 7 = .ok (.new 49, 3) := by decide +kernel
theorem dX2_flight_10 : decode cX2_flight 10 = .ok (.dup, 1) := by decide +kernel
theorem dX2_flight_11 : decode cX2_flight 11 = .ok (.ldc 166, 2) := by decide +kernel
theorem dX2_flight_13 : decode cX2_flight 13 = .ok (.invokespecial 53, 3) := by decide +kernel
theorem dX2_flight_16 : decode cX2_flight 16 = .ok (.athrow, 1) := by decide +kernel
theorem dX2_flight_17 : decode cX2_flight 17 = .ok (.iload_n 2, 1) := by decide +kernel
theorem dX2_flight_18 : decode cX2_flight 18 = .ok (.ifCond .lt 9, 3) := by decide +kernel
theorem dX2_flight_21 : decode cX2_flight 21 = .ok (.iload_n 2, 1) := by decide +kernel
theorem dX2_flight_22 : decode cX2_flight 22 = .ok (.bipush 9, 2) := by decide +kernel
theorem dX2_flight_24 : decode cX2_flight 24 = .ok (.if_icmp .lt 13, 3) := by decide +kernel
theorem dX2_flight_27 : decode cX2_flight 27 = .ok (.new 123, 3) := by decide +kernel
theorem dX2_flight_30 : decode cX2_flight 30 = .ok (.dup, 1) := by decide +kernel
theorem dX2_flight_31 : decode cX2_flight 31 = .ok (.ldc 168, 2) := by decide +kernel
theorem dX2_flight_33 : decode cX2_flight 33 = .ok (.invokespecial 127, 3) := by decide +kernel
theorem dX2_flight_36 : decode cX2_flight 36 = .ok (.athrow, 1) := by decide +kernel
theorem dX2_flight_37 : decode cX2_flight 37 = .ok (.aload_n 0, 1) := by decide +kernel
theorem dX2_flight_38 : decode cX2_flight 38 = .ok (.getfield 56, 3) := by decide +kernel
theorem dX2_flight_41 : decode cX2_flight 41 = .ok (.ifCond .eq 11, 3) := by decide +kernel
theorem dX2_flight_44 : decode cX2_flight 44 = .ok (.aload_n 0, 1) := by decide +kernel
theorem dX2_flight_45 : decode cX2_flight 45 = .ok (.iload_n 1, 1) := by decide +kernel
theorem dX2_flight_46 : decode cX2_flight 46 = .ok (.invokevirtual 78, 3) := by decide +kernel
theorem dX2_flight_49 : decode cX2_flight 49 = .ok (.ifCond .eq 6, 3) := by decide +kernel
theorem dX2_flight_52 : decode cX2_flight 52 = .ok (.bipush (-99), 2) := by decide +kernel
theorem dX2_flight_54 : decode cX2_flight 54 = .ok (.ireturn, 1) := by decide +kernel
theorem dX2_flight_55 : decode cX2_flight 55 = .ok (.aload_n 0, 1) := by decide +kernel
theorem dX2_flight_56 : decode cX2_flight 56 = .ok (.iload_n 1, 1) := by decide +kernel
theorem dX2_flight_57 : decode cX2_flight 57 = .ok (.invokevirtual 90, 3) := by decide +kernel
theorem dX2_flight_60 : decode cX2_flight 60 = .ok (.aload_n 0, 1) := by decide +kernel
theorem dX2_flight_61 : decode cX2_flight 61 = .ok (.getfield 29, 3) := by decide +kernel
theorem dX2_flight_64 : decode cX2_flight 64 = .ok (.iload_n 2, 1) := by decide +kernel
theorem dX2_flight_65 : decode cX2_flight 65 = .ok (.invokevirtual 142, 3) := by decide +kernel
theorem dX2_flight_68 : decode cX2_flight 68 = .ok (.ireturn, 1) := by decide +kernel
theorem dX2_end_0 : decode cX2_end 0 = .ok (.iload_n 1, 1) := by decide +kernel
theorem dX2_end_1 : decode cX2_end 1 = .ok (.ifCond .lt 8, 3) := by decide +kernel
theorem dX2_end_4 : decode cX2_end 4 = .ok (.iload_n 1, 1) := by decide +kernel
theorem dX2_end_5 : decode cX2_end 5 = .ok (.iconst 5, 1) := by decide +kernel
theorem dX2_end_6 : decode cX2_end 6 = .ok (.if_icmp .lt 13, 3) := by decide +kernel
theorem dX2_end_9 : decode cX2_end 9 = .ok (.new 123, 3) := by decide +kernel
theorem dX2_end_12 : decode cX2_end 12 = .ok (.dup, 1) := by decide +kernel
theorem dX2_end_13 : decode cX2_end 13 = .ok (.ldc 170, 2) := by decide +kernel
theorem dX2_end_15 : decode cX2_end 15 = .ok (.invokespecial 127, 3) := by decide +kernel
theorem dX2_end_18 : decode cX2_end 18 = .ok (.athrow, 1) := by decide +kernel
theorem dX2_end_19 : decode cX2_end 19 = .ok (.aload_n 0, 1) := by decide +kernel
theorem dX2_end_20 : decode cX2_end 20 = .ok (.getfield 56, 3) := by decide +kernel
theorem dX2_end_23 : decode cX2_end 23 = .ok (.ifCond .eq 14, 3) := by decide +kernel
theorem dX2_end_26 : decode cX2_end 26 = .ok (.aload_n 0, 1) := by decide +kernel
theorem dX2_end_27 : decode cX2_end 27 = .ok (.getfield 26, 3) := by decide +kernel
theorem dX2_end_30 : decode cX2_end 30 = .ok (.iload_n 1, 1) := by decide +kernel
theorem dX2_end_31 : decode cX2_end 31 = .ok (.invokevirtual 172, 3) := by decide +kernel
theorem dX2_end_34 : decode cX2_end 34 = .ok (.goto 4, 3) := by decide +kernel
theorem dX2_end_37 : decode cX2_end 37 = .ok (.iconst 0, 1) := by decide +kernel
theorem dX2_end_38 : decode cX2_end 38 = .ok (.ireturn, 1) := by decide +kernel
theorem dX2_would_0 : decode cX2_would 0 = .ok (.iload_n 1, 1) := by decide +kernel
theorem dX2_would_1 : decode cX2_would 1 = .ok (.invokestatic 163, 3) := by decide +kernel
theorem dX2_would_4 : decode cX2_would 4 = .ok (.ifCond .eq 13, 3) := by decide +kernel
theorem dX2_would_7 : decode cX2_would 7 = .ok (.iload_n 2, 1) := by decide +kernel
theorem dX2_would_8 : decode cX2_would 8 = .ok (.iload_n 3, 1) := by decide +kernel
theorem dX2_would_9 : decode cX2_would 9 = .ok (.iload 4, 2) := by decide +kernel
theorem dX2_would_11 : decode cX2_would 11 = .ok (.invokestatic 45, 3) := by decide +kernel
theorem dX2_would_14 : decode cX2_would 14 = .ok (.ifCond .ne 13, 3) := by decide +kernel
theorem dX2_would_17 : decode cX2_would 17 = .ok (.new 49, 3) := by decide +kernel
theorem dX2_would_20 : decode cX2_would 20 = .ok (.dup, 1) := by decide +kernel
theorem dX2_would_21 : decode cX2_would 21 = .ok (.ldc 51, 2) := by decide +kernel
theorem dX2_would_23 : decode cX2_would 23 = .ok (.invokespecial 53, 3) := by decide +kernel
theorem dX2_would_26 : decode cX2_would 26 = .ok (.athrow, 1) := by decide +kernel
theorem dX2_would_27 : decode cX2_would 27 = .ok (.aload_n 0, 1) := by decide +kernel
theorem dX2_would_28 : decode cX2_would 28 = .ok (.iload_n 1, 1) := by decide +kernel
theorem dX2_would_29 : decode cX2_would 29 = .ok (.invokevirtual 175, 3) := by decide +kernel
theorem dX2_would_32 : decode cX2_would 32 = .ok (.ifCond .ne 5, 3) := by decide +kernel
theorem dX2_would_35 : decode cX2_would 35 = .ok (.iconst (-1), 1) := by decide +kernel
theorem dX2_would_36 : decode cX2_would 36 = .ok (.ireturn, 1) := by decide +kernel
theorem dX2_would_37 : decode cX2_would 37 = .ok (.aload_n 0, 1) := by decide +kernel
theorem dX2_would_38 : decode cX2_would 38 = .ok (.iload_n 2, 1) := by decide +kernel
theorem dX2_would_39 : decode cX2_would 39 = .ok (.iload_n 3, 1) := by decide +kernel
theorem dX2_would_40 : decode cX2_would 40 = .ok (.iload 4, 2) := by decide +kernel
theorem dX2_would_42 : decode cX2_would 42 = .ok (.ldc 178, 2) := by decide +kernel
theorem dX2_would_44 : decode cX2_would 44 = .ok (.invokevirtual 179, 3) := by decide +kernel
theorem dX2_would_47 : decode cX2_would 47 = .ok (.aload_n 0, 1) := by decide +kernel
theorem dX2_would_48 : decode cX2_would 48 = .ok (.getfield 32, 3) := by decide +kernel
theorem dX2_would_51 : decode cX2_would 51 = .ok (.getfield 182, 3) := by decide +kernel
theorem dX2_would_54 : decode cX2_would 54 = .ok (.ireturn, 1) := by decide +kernel
theorem dX2_advise_0 : decode cX2_advise 0 = .ok (.iload_n 1, 1) := by decide +kernel
theorem dX2_advise_1 : decode cX2_advise 1 = .ok (.invokestatic 163, 3) := by decide +kernel
theorem dX2_advise_4 : decode cX2_advise 4 = .ok (.ifCond .ne 13, 3) := by decide +kernel
theorem dX2_advise_7 : decode cX2_advise 7 = .ok (.new 49, 3) := by decide +kernel
theorem dX2_advise_10 : decode cX2_advise 10 = .ok (.dup, 1) := by decide +kernel
theorem dX2_advise_11 : decode cX2_advise 11 = .ok (.ldc 166, 2) := by decide +kernel
theorem dX2_advise_13 : decode cX2_advise 13 = .ok (.invokespecial 53, 3) := by decide +kernel
theorem dX2_advise_16 : decode cX2_advise 16 = .ok (.athrow, 1) := by decide +kernel
theorem dX2_advise_17 : decode cX2_advise 17 = .ok (.aload_n 0, 1) := by decide +kernel
theorem dX2_advise_18 : decode cX2_advise 18 = .ok (.iload_n 1, 1) := by decide +kernel
theorem dX2_advise_19 : decode cX2_advise 19 = .ok (.invokevirtual 175, 3) := by decide +kernel
theorem dX2_advise_22 : decode cX2_advise 22 = .ok (.ifCond .ne 5, 3) := by decide +kernel
theorem dX2_advise_25 : decode cX2_advise 25 = .ok (.iconst (-1), 1) := by decide +kernel
theorem dX2_advise_26 : decode cX2_advise 26 = .ok (.ireturn, 1) := by decide +kernel
theorem dX2_advise_27 : decode cX2_advise 27 = .ok (.aload_n 0, 1) := by decide +kernel
theorem dX2_advise_28 : decode cX2_advise 28 = .ok (.invokevirtual 185, 3) := by decide +kernel
theorem dX2_advise_31 : decode cX2_advise 31 = .ok (.ireturn, 1) := by decide +kernel
theorem dX2_mean_0 : decode cX2_mean 0 = .ok (.aload_n 0, 1) := by decide +kernel
theorem dX2_mean_1 : decode cX2_mean 1 = .ok (.getfield 152, 3) := by decide +kernel
theorem dX2_mean_4 : decode cX2_mean 4 = .ok (.ifCond .ne 5, 3) := by decide +kernel
theorem dX2_mean_7 : decode cX2_mean 7 = .ok (.dconst 0, 1) := by decide +kernel
theorem dX2_mean_8 : decode cX2_mean 8 = .ok (.dreturn, 1) := by decide +kernel
theorem dX2_mean_9 : decode cX2_mean 9 = .ok (.aload_n 0, 1) := by decide +kernel
theorem dX2_mean_10 : decode cX2_mean 10 = .ok (.getfield 188, 3) := by decide +kernel
theorem dX2_mean_13 : decode cX2_mean 13 = .ok (.i2d, 1) := by decide +kernel
theorem dX2_mean_14 : decode cX2_mean 14 = .ok (.aload_n 0, 1) := by decide +kernel
theorem dX2_mean_15 : decode cX2_mean 15 = .ok (.getfield 152, 3) := by decide +kernel
theorem dX2_mean_18 : decode cX2_mean 18 = .ok (.i2d, 1) := by decide +kernel
theorem dX2_mean_19 : decode cX2_mean 19 = .ok (.ddiv, 1) := by decide +kernel
theorem dX2_mean_20 : decode cX2_mean 20 = .ok (.dreturn, 1) := by decide +kernel
theorem dX2_digest_0 : decode cX2_digest 0 = .ok (.ldc2_w 191, 3) := by decide +kernel
theorem dX2_digest_3 : decode cX2_digest 3 = .ok (.lstore_n 1, 1) := by decide +kernel
theorem dX2_digest_4 : decode cX2_digest 4 = .ok (.iconst 0, 1) := by decide +kernel
theorem dX2_digest_5 : decode cX2_digest 5 = .ok (.istore_n 3, 1) := by decide +kernel
theorem dX2_digest_6 : decode cX2_digest 6 = .ok (.iload_n 3, 1) := by decide +kernel
theorem dX2_digest_7 : decode cX2_digest 7 = .ok (.bipush 9, 2) := by decide +kernel
theorem dX2_digest_9 : decode cX2_digest 9 = .ok (.if_icmp .ge 22, 3) := by decide +kernel
theorem dX2_digest_12 : decode cX2_digest 12 = .ok (.lload_n 1, 1) := by decide +kernel
theorem dX2_digest_13 : decode cX2_digest 13 = .ok (.ldc2_w 193, 3) := by decide +kernel
theorem dX2_digest_16 : decode cX2_digest 16 = .ok (.lmul, 1) := by decide +kernel
theorem dX2_digest_17 : decode cX2_digest 17 = .ok (.aload_n 0, 1) := by decide +kernel
theorem dX2_digest_18 : decode cX2_digest 18 = .ok (.iload_n 3, 1) := by decide +kernel
theorem dX2_digest_19 : decode cX2_digest 19 = .ok (.invokevirtual 195, 3) := by decide +kernel
theorem dX2_digest_22 : decode cX2_digest 22 = .ok (.i2l, 1) := by decide +kernel
theorem dX2_digest_23 : decode cX2_digest 23 = .ok (.ladd, 1) := by decide +kernel
theorem dX2_digest_24 : decode cX2_digest 24 = .ok (.lstore_n 1, 1) := by decide +kernel
theorem dX2_digest_25 : decode cX2_digest 25 = .ok (.iinc 3 1, 3) := by decide +kernel
theorem dX2_digest_28 : decode cX2_digest 28 = .ok (.goto (-22), 3) := by decide +kernel
theorem dX2_digest_31 : decode cX2_digest 31 = .ok (.iconst 0, 1) := by decide +kernel
theorem dX2_digest_32 : decode cX2_digest 32 = .ok (.istore_n 3, 1) := by decide +kernel
theorem dX2_digest_33 : decode cX2_digest 33 = .ok (.iload_n 3, 1) := by decide +kernel
theorem dX2_digest_34 : decode cX2_digest 34 = .ok (.iconst 2, 1) := by decide +kernel
theorem dX2_digest_35 : decode cX2_digest 35 = .ok (.if_icmp .ge 39, 3) := by decide +kernel
theorem dX2_digest_38 : decode cX2_digest 38 = .ok (.iconst 0, 1) := by decide +kernel
theorem dX2_digest_39 : decode cX2_digest 39 = .ok (.istore 4, 2) := by decide +kernel
theorem dX2_digest_41 : decode cX2_digest 41 = .ok (.iload 4, 2) := by decide +kernel
theorem dX2_digest_43 : decode cX2_digest 43 = .ok (.iconst 4, 1) := by decide +kernel
theorem dX2_digest_44 : decode cX2_digest 44 = .ok (.if_icmp .ge 24, 3) := by decide +kernel
theorem dX2_digest_47 : decode cX2_digest 47 = .ok (.lload_n 1, 1) := by decide +kernel
theorem dX2_digest_48 : decode cX2_digest 48 = .ok (.ldc2_w 193, 3) := by decide +kernel
theorem dX2_digest_51 : decode cX2_digest 51 = .ok (.lmul, 1) := by decide +kernel
theorem dX2_digest_52 : decode cX2_digest 52 = .ok (.aload_n 0, 1) := by decide +kernel
theorem dX2_digest_53 : decode cX2_digest 53 = .ok (.iload_n 3, 1) := by decide +kernel
theorem dX2_digest_54 : decode cX2_digest 54 = .ok (.iload 4, 2) := by decide +kernel
theorem dX2_digest_56 : decode cX2_digest 56 = .ok (.invokevirtual 198, 3) := by decide +kernel
theorem dX2_digest_59 : decode cX2_digest 59 = .ok (.i2l, 1) := by decide +kernel
theorem dX2_digest_60 : decode cX2_digest 60 = .ok (.ladd, 1) := by decide +kernel
theorem dX2_digest_61 : decode cX2_digest 61 = .ok (.lstore_n 1, 1) := by decide +kernel
theorem dX2_digest_62 : decode cX2_digest 62 = .ok (.iinc 4 1, 3) := by decide +kernel
theorem dX2_digest_65 : decode cX2_digest 65 = .ok (.goto (-24), 3) := by decide +kernel
theorem dX2_digest_68 : decode cX2_digest 68 = .ok (.iinc 3 1, 3) := by decide +kernel
theorem dX2_digest_71 : decode cX2_digest 71 = .ok (.goto (-38), 3) := by decide +kernel
theorem dX2_digest_74 : decode cX2_digest 74 = .ok (.iconst 0, 1) := by decide +kernel
theorem dX2_digest_75 : decode cX2_digest 75 = .ok (.istore_n 3, 1) := by decide +kernel
theorem dX2_digest_76 : decode cX2_digest 76 = .ok (.iload_n 3, 1) := by decide +kernel
theorem dX2_digest_77 : decode cX2_digest 77 = .ok (.bipush 6, 2) := by decide +kernel
theorem dX2_digest_79 : decode cX2_digest 79 = .ok (.if_icmp .ge 22, 3) := by decide +kernel
theorem dX2_digest_82 : decode cX2_digest 82 = .ok (.lload_n 1, 1) := by decide +kernel
theorem dX2_digest_83 : decode cX2_digest 83 = .ok (.ldc2_w 193, 3) := by decide +kernel
theorem dX2_digest_86 : decode cX2_digest 86 = .ok (.lmul, 1) := by decide +kernel
theorem dX2_digest_87 : decode cX2_digest 87 = .ok (.aload_n 0, 1) := by decide +kernel
theorem dX2_digest_88 : decode cX2_digest 88 = .ok (.iload_n 3, 1) := by decide +kernel
theorem dX2_digest_89 : decode cX2_digest 89 = .ok (.invokevirtual 202, 3) := by decide +kernel
theorem dX2_digest_92 : decode cX2_digest 92 = .ok (.i2l, 1) := by decide +kernel
theorem dX2_digest_93 : decode cX2_digest 93 = .ok (.ladd, 1) := by decide +kernel
theorem dX2_digest_94 : decode cX2_digest 94 = .ok (.lstore_n 1, 1) := by decide +kernel
theorem dX2_digest_95 : decode cX2_digest 95 = .ok (.iinc 3 1, 3) := by decide +kernel
theorem dX2_digest_98 : decode cX2_digest 98 = .ok (.goto (-22), 3) := by decide +kernel
theorem dX2_digest_101 : decode cX2_digest 101 = .ok (.iconst 0, 1) := by decide +kernel
theorem dX2_digest_102 : decode cX2_digest 102 = .ok (.istore_n 3, 1) := by decide +kernel
theorem dX2_digest_103 : decode cX2_digest 103 = .ok (.iload_n 3, 1) := by decide +kernel
theorem dX2_digest_104 : decode cX2_digest 104 = .ok (.iconst 5, 1) := by decide +kernel
theorem dX2_digest_105 : decode cX2_digest 105 = .ok (.if_icmp .ge 22, 3) := by decide +kernel
theorem dX2_digest_108 : decode cX2_digest 108 = .ok (.lload_n 1, 1) := by decide +kernel
theorem dX2_digest_109 : decode cX2_digest 109 = .ok (.ldc2_w 193, 3) := by decide +kernel
theorem dX2_digest_112 : decode cX2_digest 112 = .ok (.lmul, 1) := by decide +kernel
theorem dX2_digest_113 : decode cX2_digest 113 = .ok (.aload_n 0, 1) := by decide +kernel
theorem dX2_digest_114 : decode cX2_digest 114 = .ok (.iload_n 3, 1) := by decide +kernel
theorem dX2_digest_115 : decode cX2_digest 115 = .ok (.invokevirtual 205, 3) := by decide +kernel
theorem dX2_digest_118 : decode cX2_digest 118 = .ok (.i2l, 1) := by decide +kernel
theorem dX2_digest_119 : decode cX2_digest 119 = .ok (.ladd, 1) := by decide +kernel
theorem dX2_digest_120 : decode cX2_digest 120 = .ok (.lstore_n 1, 1) := by decide +kernel
theorem dX2_digest_121 : decode cX2_digest 121 = .ok (.iinc 3 1, 3) := by decide +kernel
theorem dX2_digest_124 : decode cX2_digest 124 = .ok (.goto (-21), 3) := by decide +kernel
theorem dX2_digest_127 : decode cX2_digest 127 = .ok (.lload_n 1, 1) := by decide +kernel
theorem dX2_digest_128 : decode cX2_digest 128 = .ok (.lreturn, 1) := by decide +kernel
theorem dX2_isStroke_0 : decode cX2_isStroke 0 = .ok (.iload_n 0, 1) := by decide +kernel
theorem dX2_isStroke_1 : decode cX2_isStroke 1 = .ok (.invokestatic 208, 3) := by decide +kernel
theorem dX2_isStroke_4 : decode cX2_isStroke 4 = .ok (.ifCond .eq 24, 3) := by decide +kernel
theorem dX2_isStroke_7 : decode cX2_isStroke 7 = .ok (.iload_n 1, 1) := by decide +kernel
theorem dX2_isStroke_8 : decode cX2_isStroke 8 = .ok (.invokestatic 208, 3) := by decide +kernel
theorem dX2_isStroke_11 : decode cX2_isStroke 11 = .ok (.ifCond .eq 17, 3) := by decide +kernel
theorem dX2_isStroke_14 : decode cX2_isStroke 14 = .ok (.iload_n 2, 1) := by decide +kernel
theorem dX2_isStroke_15 : decode cX2_isStroke 15 = .ok (.ifCond .lt 13, 3) := by decide +kernel
theorem dX2_isStroke_18 : decode cX2_isStroke 18 = .ok (.iload_n 2, 1) := by decide +kernel
theorem dX2_isStroke_19 : decode cX2_isStroke 19 = .ok (.bipush 9, 2) := by decide +kernel
theorem dX2_isStroke_21 : decode cX2_isStroke 21 = .ok (.if_icmp .gt 7, 3) := by decide +kernel
theorem dX2_isStroke_24 : decode cX2_isStroke 24 = .ok (.iconst 1, 1) := by decide +kernel
theorem dX2_isStroke_25 : decode cX2_isStroke 25 = .ok (.goto 4, 3) := by decide +kernel
theorem dX2_isStroke_28 : decode cX2_isStroke 28 = .ok (.iconst 0, 1) := by decide +kernel
theorem dX2_isStroke_29 : decode cX2_isStroke 29 = .ok (.ireturn, 1) := by decide +kernel
theorem dX2_isWay_0 : decode cX2_isWay 0 = .ok (.iload_n 0, 1) := by decide +kernel
theorem dX2_isWay_1 : decode cX2_isWay 1 = .ok (.bipush (-2), 2) := by decide +kernel
theorem dX2_isWay_3 : decode cX2_isWay 3 = .ok (.if_icmp .lt 12, 3) := by decide +kernel
theorem dX2_isWay_6 : decode cX2_isWay 6 = .ok (.iload_n 0, 1) := by decide +kernel
theorem dX2_isWay_7 : decode cX2_isWay 7 = .ok (.iconst 2, 1) := by decide +kernel
theorem dX2_isWay_8 : decode cX2_isWay 8 = .ok (.if_icmp .gt 7, 3) := by decide +kernel
theorem dX2_isWay_11 : decode cX2_isWay 11 = .ok (.iconst 1, 1) := by decide +kernel
theorem dX2_isWay_12 : decode cX2_isWay 12 = .ok (.goto 4, 3) := by decide +kernel
theorem dX2_isWay_15 : decode cX2_isWay 15 = .ok (.iconst 0, 1) := by decide +kernel
theorem dX2_isWay_16 : decode cX2_isWay 16 = .ok (.ireturn, 1) := by decide +kernel
theorem dX2_isSide_0 : decode cX2_isSide 0 = .ok (.iload_n 0, 1) := by decide +kernel
theorem dX2_isSide_1 : decode cX2_isSide 1 = .ok (.ifCond .eq 8, 3) := by decide +kernel
theorem dX2_isSide_4 : decode cX2_isSide 4 = .ok (.iload_n 0, 1) := by decide +kernel
theorem dX2_isSide_5 : decode cX2_isSide 5 = .ok (.iconst 1, 1) := by decide +kernel
theorem dX2_isSide_6 : decode cX2_isSide 6 = .ok (.if_icmp .ne 7, 3) := by decide +kernel
theorem dX2_isSide_9 : decode cX2_isSide 9 = .ok (.iconst 1, 1) := by decide +kernel
theorem dX2_isSide_10 : decode cX2_isSide 10 = .ok (.goto 4, 3) := by decide +kernel
theorem dX2_isSide_13 : decode cX2_isSide 13 = .ok (.iconst 0, 1) := by decide +kernel
theorem dX2_isSide_14 : decode cX2_isSide 14 = .ok (.ireturn, 1) := by decide +kernel
theorem dX2_isLookAhead_0 : decode cX2_isLookAhead 0 = .ok (.iload_n 0, 1) := by decide +kernel
theorem dX2_isLookAhead_1 : decode cX2_isLookAhead 1 = .ok (.ifCond .lt 13, 3) := by decide +kernel
theorem dX2_isLookAhead_4 : decode cX2_isLookAhead 4 = .ok (.iload_n 0, 1) := by decide +kernel
theorem dX2_isLookAhead_5 : decode cX2_isLookAhead 5 = .ok (.bipush 60, 2) := by decide +kernel
theorem dX2_isLookAhead_7 : decode cX2_isLookAhead 7 = .ok (.if_icmp .gt 7, 3) := by decide +kernel
theorem dX2_isLookAhead_10 : decode cX2_isLookAhead 10 = .ok (.iconst 1, 1) := by decide +kernel
theorem dX2_isLookAhead_11 : decode cX2_isLookAhead 11 = .ok (.goto 4, 3) := by decide +kernel
theorem dX2_isLookAhead_14 : decode cX2_isLookAhead 14 = .ok (.iconst 0, 1) := by decide +kernel
theorem dX2_isLookAhead_15 : decode cX2_isLookAhead 15 = .ok (.ireturn, 1) := by decide +kernel
theorem dX2_sideOf_0 : decode cX2_sideOf 0 = .ok (.iload_n 1, 1) := by decide +kernel
theorem dX2_sideOf_1 : decode cX2_sideOf 1 = .ok (.ifCond .ne 10, 3) := by decide +kernel
theorem dX2_sideOf_4 : decode cX2_sideOf 4 = .ok (.aload_n 0, 1) := by decide +kernel
theorem dX2_sideOf_5 : decode cX2_sideOf 5 = .ok (.getfield 10, 3) := by decide +kernel
theorem dX2_sideOf_8 : decode cX2_sideOf 8 = .ok (.goto 7, 3) := by decide +kernel
theorem dX2_sideOf_11 : decode cX2_sideOf 11 = .ok (.aload_n 0, 1) := by decide +kernel
theorem dX2_sideOf_12 : decode cX2_sideOf 12 = .ok (.getfield 16, 3) := by decide +kernel
theorem dX2_sideOf_15 : decode cX2_sideOf 15 = .ok (.areturn, 1) := by decide +kernel
theorem dX2_otherSide_0 : decode cX2_otherSide 0 = .ok (.iconst 1, 1) := by decide +kernel
theorem dX2_otherSide_1 : decode cX2_otherSide 1 = .ok (.iload_n 0, 1) := by decide +kernel
theorem dX2_otherSide_2 : decode cX2_otherSide 2 = .ok (.isub, 1) := by decide +kernel
theorem dX2_otherSide_3 : decode cX2_otherSide 3 = .ok (.ireturn, 1) := by decide +kernel
theorem dX2_sideToStrike_0 : decode cX2_sideToStrike 0 = .ok (.aload_n 0, 1) := by decide +kernel
theorem dX2_sideToStrike_1 : decode cX2_sideToStrike 1 = .ok (.getfield 107, 3) := by decide +kernel
theorem dX2_sideToStrike_4 : decode cX2_sideToStrike 4 = .ok (.iconst 2, 1) := by decide +kernel
theorem dX2_sideToStrike_5 : decode cX2_sideToStrike 5 = .ok (.irem, 1) := by decide +kernel
theorem dX2_sideToStrike_6 : decode cX2_sideToStrike 6 = .ok (.ifCond .ne 10, 3) := by decide +kernel
theorem dX2_sideToStrike_9 : decode cX2_sideToStrike 9 = .ok (.aload_n 0, 1) := by decide +kernel
theorem dX2_sideToStrike_10 : decode cX2_sideToStrike 10 = .ok (.getfield 35, 3) := by decide +kernel
theorem dX2_sideToStrike_13 : decode cX2_sideToStrike 13 = .ok (.goto 10, 3) := by decide +kernel
theorem dX2_sideToStrike_16 : decode cX2_sideToStrike 16 = .ok (.aload_n 0, 1) := by decide +kernel
theorem dX2_sideToStrike_17 : decode cX2_sideToStrike 17 = .ok (.getfield 35, 3) := by decide +kernel
theorem dX2_sideToStrike_20 : decode cX2_sideToStrike 20 = .ok (.invokestatic 211, 3) := by decide +kernel
theorem dX2_sideToStrike_23 : decode cX2_sideToStrike 23 = .ok (.ireturn, 1) := by decide +kernel
theorem dX2_winnerByFlight_0 : decode cX2_winnerByFlight 0 = .ok (.aload_n 0, 1) := by decide +kernel
theorem dX2_winnerByFlight_1 : decode cX2_winnerByFlight 1 = .ok (.invokevirtual 104, 3) := by decide +kernel
theorem dX2_winnerByFlight_4 : decode cX2_winnerByFlight 4 = .ok (.istore_n 1, 1) := by decide +kernel
theorem dX2_winnerByFlight_5 : decode cX2_winnerByFlight 5 = .ok (.aload_n 0, 1) := by decide +kernel
theorem dX2_winnerByFlight_6 : decode cX2_winnerByFlight 6 = .ok (.getfield 26, 3) := by decide +kernel
theorem dX2_winnerByFlight_9 : decode cX2_winnerByFlight 9 = .ok (.getfield 182, 3) := by decide +kernel
theorem dX2_winnerByFlight_12 : decode cX2_winnerByFlight 12 = .ok (.iconst 3, 1) := by decide +kernel
theorem dX2_winnerByFlight_13 : decode cX2_winnerByFlight 13 = .ok (.if_icmp .ne 10, 3) := by decide +kernel
theorem dX2_winnerByFlight_16 : decode cX2_winnerByFlight 16 = .ok (.iload_n 1, 1) := by decide +kernel
theorem dX2_winnerByFlight_17 : decode cX2_winnerByFlight 17 = .ok (.invokestatic 211, 3) := by decide +kernel
theorem dX2_winnerByFlight_20 : decode cX2_winnerByFlight 20 = .ok (.goto 4, 3) := by decide +kernel
theorem dX2_winnerByFlight_23 : decode cX2_winnerByFlight 23 = .ok (.iload_n 1, 1) := by decide +kernel
theorem dX2_winnerByFlight_24 : decode cX2_winnerByFlight 24 = .ok (.ireturn, 1) := by decide +kernel
theorem dX2_winRally_0 : decode cX2_winRally 0 = .ok (.aload_n 0, 1) := by decide +kernel
theorem dX2_winRally_1 : decode cX2_winRally 1 = .ok (.dup, 1) := by decide +kernel
theorem dX2_winRally_2 : decode cX2_winRally 2 = .ok (.getfield 152, 3) := by decide +kernel
theorem dX2_winRally_5 : decode cX2_winRally 5 = .ok (.iconst 1, 1) := by decide +kernel
theorem dX2_winRally_6 : decode cX2_winRally 6 = .ok (.iadd, 1) := by decide +kernel
theorem dX2_winRally_7 : decode cX2_winRally 7 = .ok (.putfield 152, 3) := by decide +kernel
theorem dX2_winRally_10 : decode cX2_winRally 10 = .ok (.aload_n 0, 1) := by decide +kernel
theorem dX2_winRally_11 : decode cX2_winRally 11 = .ok (.dup, 1) := by decide +kernel
theorem dX2_winRally_12 : decode cX2_winRally 12 = .ok (.getfield 188, 3) := by decide +kernel
theorem dX2_winRally_15 : decode cX2_winRally 15 = .ok (.aload_n 0, 1) := by decide +kernel
theorem dX2_winRally_16 : decode cX2_winRally 16 = .ok (.getfield 107, 3) := by decide +kernel
theorem dX2_winRally_19 : decode cX2_winRally 19 = .ok (.iadd, 1) := by decide +kernel
theorem dX2_winRally_20 : decode cX2_winRally 20 = .ok (.putfield 188, 3) := by decide +kernel
theorem dX2_winRally_23 : decode cX2_winRally 23 = .ok (.aload_n 0, 1) := by decide +kernel
theorem dX2_winRally_24 : decode cX2_winRally 24 = .ok (.iload_n 1, 1) := by decide +kernel
theorem dX2_winRally_25 : decode cX2_winRally 25 = .ok (.invokevirtual 147, 3) := by decide +kernel
theorem dX2_winRally_28 : decode cX2_winRally 28 = .ok (.dup, 1) := by decide +kernel
theorem dX2_winRally_29 : decode cX2_winRally 29 = .ok (.getfield 214, 3) := by decide +kernel
theorem dX2_winRally_32 : decode cX2_winRally 32 = .ok (.iconst 1, 1) := by decide +kernel
theorem dX2_winRally_33 : decode cX2_winRally 33 = .ok (.iadd, 1) := by decide +kernel
theorem dX2_winRally_34 : decode cX2_winRally 34 = .ok (.putfield 214, 3) := by decide +kernel
theorem dX2_winRally_37 : decode cX2_winRally 37 = .ok (.aload_n 0, 1) := by decide +kernel
theorem dX2_winRally_38 : decode cX2_winRally 38 = .ok (.invokevirtual 131, 3) := by decide +kernel
theorem dX2_winRally_41 : decode cX2_winRally 41 = .ok (.iload_n 1, 1) := by decide +kernel
theorem dX2_winRally_42 : decode cX2_winRally 42 = .ok (.aload_n 0, 1) := by decide +kernel
theorem dX2_winRally_43 : decode cX2_winRally 43 = .ok (.getfield 35, 3) := by decide +kernel
theorem dX2_winRally_46 : decode cX2_winRally 46 = .ok (.if_icmp .ne 10, 3) := by decide +kernel
theorem dX2_winRally_49 : decode cX2_winRally 49 = .ok (.aload_n 0, 1) := by decide +kernel
theorem dX2_winRally_50 : decode cX2_winRally 50 = .ok (.invokevirtual 217, 3) := by decide +kernel
theorem dX2_winRally_53 : decode cX2_winRally 53 = .ok (.goto 8, 3) := by decide +kernel
theorem dX2_winRally_56 : decode cX2_winRally 56 = .ok (.aload_n 0, 1) := by decide +kernel
theorem dX2_winRally_57 : decode cX2_winRally 57 = .ok (.iload_n 1, 1) := by decide +kernel
theorem dX2_winRally_58 : decode cX2_winRally 58 = .ok (.putfield 35, 3) := by decide +kernel
theorem dX2_winRally_61 : decode cX2_winRally 61 = .ok (.iconst 2, 1) := by decide +kernel
theorem dX2_winRally_62 : decode cX2_winRally 62 = .ok (.iload_n 1, 1) := by decide +kernel
theorem dX2_winRally_63 : decode cX2_winRally 63 = .ok (.iadd, 1) := by decide +kernel
theorem dX2_winRally_64 : decode cX2_winRally 64 = .ok (.ireturn, 1) := by decide +kernel
theorem dX2_winPoint_0 : decode cX2_winPoint 0 = .ok (.aload_n 0, 1) := by decide +kernel
theorem dX2_winPoint_1 : decode cX2_winPoint 1 = .ok (.aload_n 0, 1) := by decide +kernel
theorem dX2_winPoint_2 : decode cX2_winPoint 2 = .ok (.getfield 35, 3) := by decide +kernel
theorem dX2_winPoint_5 : decode cX2_winPoint 5 = .ok (.invokevirtual 147, 3) := by decide +kernel
theorem dX2_winPoint_8 : decode cX2_winPoint 8 = .ok (.astore_n 1, 1) := by decide +kernel
theorem dX2_winPoint_9 : decode cX2_winPoint 9 = .ok (.aload_n 1, 1) := by decide +kernel
theorem dX2_winPoint_10 : decode cX2_winPoint 10 = .ok (.dup, 1) := by decide +kernel
theorem dX2_winPoint_11 : decode cX2_winPoint 11 = .ok (.getfield 117, 3) := by decide +kernel
theorem dX2_winPoint_14 : decode cX2_winPoint 14 = .ok (.iconst 1, 1) := by decide +kernel
theorem dX2_winPoint_15 : decode cX2_winPoint 15 = .ok (.iadd, 1) := by decide +kernel
theorem dX2_winPoint_16 : decode cX2_winPoint 16 = .ok (.putfield 117, 3) := by decide +kernel
theorem dX2_winPoint_19 : decode cX2_winPoint 19 = .ok (.aload_n 1, 1) := by decide +kernel
theorem dX2_winPoint_20 : decode cX2_winPoint 20 = .ok (.getfield 117, 3) := by decide +kernel
theorem dX2_winPoint_23 : decode cX2_winPoint 23 = .ok (.aload_n 0, 1) := by decide +kernel
theorem dX2_winPoint_24 : decode cX2_winPoint 24 = .ok (.getfield 39, 3) := by decide +kernel
theorem dX2_winPoint_27 : decode cX2_winPoint 27 = .ok (.if_icmp .lt 8, 3) := by decide +kernel
theorem dX2_winPoint_30 : decode cX2_winPoint 30 = .ok (.aload_n 0, 1) := by decide +kernel
theorem dX2_winPoint_31 : decode cX2_winPoint 31 = .ok (.aload_n 1, 1) := by decide +kernel
theorem dX2_winPoint_32 : decode cX2_winPoint 32 = .ok (.invokevirtual 220, 3) := by decide +kernel
theorem dX2_winPoint_35 : decode cX2_winPoint 35 = .ok (.return_, 1) := by decide +kernel
theorem dX2_winGame_0 : decode cX2_winGame 0 = .ok (.aload_n 1, 1) := by decide +kernel
theorem dX2_winGame_1 : decode cX2_winGame 1 = .ok (.dup, 1) := by decide +kernel
theorem dX2_winGame_2 : decode cX2_winGame 2 = .ok (.getfield 128, 3) := by decide +kernel
theorem dX2_winGame_5 : decode cX2_winGame 5 = .ok (.iconst 1, 1) := by decide +kernel
theorem dX2_winGame_6 : decode cX2_winGame 6 = .ok (.iadd, 1) := by decide +kernel
theorem dX2_winGame_7 : decode cX2_winGame 7 = .ok (.putfield 128, 3) := by decide +kernel
theorem dX2_winGame_10 : decode cX2_winGame 10 = .ok (.aload_n 0, 1) := by decide +kernel
theorem dX2_winGame_11 : decode cX2_winGame 11 = .ok (.dup, 1) := by decide +kernel
theorem dX2_winGame_12 : decode cX2_winGame 12 = .ok (.getfield 158, 3) := by decide +kernel
theorem dX2_winGame_15 : decode cX2_winGame 15 = .ok (.iconst 1, 1) := by decide +kernel
theorem dX2_winGame_16 : decode cX2_winGame 16 = .ok (.iadd, 1) := by decide +kernel
theorem dX2_winGame_17 : decode cX2_winGame 17 = .ok (.putfield 158, 3) := by decide +kernel
theorem dX2_winGame_20 : decode cX2_winGame 20 = .ok (.aload_n 0, 1) := by decide +kernel
theorem dX2_winGame_21 : decode cX2_winGame 21 = .ok (.invokevirtual 134, 3) := by decide +kernel
theorem dX2_winGame_24 : decode cX2_winGame 24 = .ok (.aload_n 1, 1) := by decide +kernel
theorem dX2_winGame_25 : decode cX2_winGame 25 = .ok (.getfield 128, 3) := by decide +kernel
theorem dX2_winGame_28 : decode cX2_winGame 28 = .ok (.iconst 3, 1) := by decide +kernel
theorem dX2_winGame_29 : decode cX2_winGame 29 = .ok (.if_icmp .lt 11, 3) := by decide +kernel
theorem dX2_winGame_32 : decode cX2_winGame 32 = .ok (.aload_n 0, 1) := by decide +kernel
theorem dX2_winGame_33 : decode cX2_winGame 33 = .ok (.aload_n 0, 1) := by decide +kernel
theorem dX2_winGame_34 : decode cX2_winGame 34 = .ok (.getfield 35, 3) := by decide +kernel
theorem dX2_winGame_37 : decode cX2_winGame 37 = .ok (.putfield 42, 3) := by decide +kernel
theorem dX2_winGame_40 : decode cX2_winGame 40 = .ok (.return_, 1) := by decide +kernel
theorem dX2_beginGame_0 : decode cX2_beginGame 0 = .ok (.aload_n 0, 1) := by decide +kernel
theorem dX2_beginGame_1 : decode cX2_beginGame 1 = .ok (.getfield 10, 3) := by decide +kernel
theorem dX2_beginGame_4 : decode cX2_beginGame 4 = .ok (.iconst 0, 1) := by decide +kernel
theorem dX2_beginGame_5 : decode cX2_beginGame 5 = .ok (.putfield 117, 3) := by decide +kernel
theorem dX2_beginGame_8 : decode cX2_beginGame 8 = .ok (.aload_n 0, 1) := by decide +kernel
theorem dX2_beginGame_9 : decode cX2_beginGame 9 = .ok (.getfield 16, 3) := by decide +kernel
theorem dX2_beginGame_12 : decode cX2_beginGame 12 = .ok (.iconst 0, 1) := by decide +kernel
theorem dX2_beginGame_13 : decode cX2_beginGame 13 = .ok (.putfield 117, 3) := by decide +kernel
theorem dX2_beginGame_16 : decode cX2_beginGame 16 = .ok (.aload_n 0, 1) := by decide +kernel
theorem dX2_beginGame_17 : decode cX2_beginGame 17 = .ok (.bipush 12, 2) := by decide +kernel
theorem dX2_beginGame_19 : decode cX2_beginGame 19 = .ok (.putfield 39, 3) := by decide +kernel
theorem dX2_beginGame_22 : decode cX2_beginGame 22 = .ok (.return_, 1) := by decide +kernel
theorem dX2_replayRally_0 : decode cX2_replayRally 0 = .ok (.aload_n 0, 1) := by decide +kernel
theorem dX2_replayRally_1 : decode cX2_replayRally 1 = .ok (.dup, 1) := by decide +kernel
theorem dX2_replayRally_2 : decode cX2_replayRally 2 = .ok (.getfield 155, 3) := by decide +kernel
theorem dX2_replayRally_5 : decode cX2_replayRally 5 = .ok (.iconst 1, 1) := by decide +kernel
theorem dX2_replayRally_6 : decode cX2_replayRally 6 = .ok (.iadd, 1) := by decide +kernel
theorem dX2_replayRally_7 : decode cX2_replayRally 7 = .ok (.putfield 155, 3) := by decide +kernel
theorem dX2_replayRally_10 : decode cX2_replayRally 10 = .ok (.aload_n 0, 1) := by decide +kernel
theorem dX2_replayRally_11 : decode cX2_replayRally 11 = .ok (.invokevirtual 131, 3) := by decide +kernel
theorem dX2_replayRally_14 : decode cX2_replayRally 14 = .ok (.return_, 1) := by decide +kernel
theorem dX2_closeRally_0 : decode cX2_closeRally 0 = .ok (.aload_n 0, 1) := by decide +kernel
theorem dX2_closeRally_1 : decode cX2_closeRally 1 = .ok (.iconst 0, 1) := by decide +kernel
theorem dX2_closeRally_2 : decode cX2_closeRally 2 = .ok (.putfield 56, 3) := by decide +kernel
theorem dX2_closeRally_5 : decode cX2_closeRally 5 = .ok (.aload_n 0, 1) := by decide +kernel
theorem dX2_closeRally_6 : decode cX2_closeRally 6 = .ok (.iconst 0, 1) := by decide +kernel
theorem dX2_closeRally_7 : decode cX2_closeRally 7 = .ok (.putfield 107, 3) := by decide +kernel
theorem dX2_closeRally_10 : decode cX2_closeRally 10 = .ok (.return_, 1) := by decide +kernel
theorem dX2_isMatchOver_0 : decode cX2_isMatchOver 0 = .ok (.aload_n 0, 1) := by decide +kernel
theorem dX2_isMatchOver_1 : decode cX2_isMatchOver 1 = .ok (.getfield 42, 3) := by decide +kernel
theorem dX2_isMatchOver_4 : decode cX2_isMatchOver 4 = .ok (.iconst (-1), 1) := by decide +kernel
theorem dX2_isMatchOver_5 : decode cX2_isMatchOver 5 = .ok (.if_icmp .eq 7, 3) := by decide +kernel
theorem dX2_isMatchOver_8 : decode cX2_isMatchOver 8 = .ok (.iconst 1, 1) := by decide +kernel
theorem dX2_isMatchOver_9 : decode cX2_isMatchOver 9 = .ok (.goto 4, 3) := by decide +kernel
theorem dX2_isMatchOver_12 : decode cX2_isMatchOver 12 = .ok (.iconst 0, 1) := by decide +kernel
theorem dX2_isMatchOver_13 : decode cX2_isMatchOver 13 = .ok (.ireturn, 1) := by decide +kernel
theorem dX2_canBeSet_0 : decode cX2_canBeSet 0 = .ok (.aload_n 0, 1) := by decide +kernel
theorem dX2_canBeSet_1 : decode cX2_canBeSet 1 = .ok (.getfield 56, 3) := by decide +kernel
theorem dX2_canBeSet_4 : decode cX2_canBeSet 4 = .ok (.ifCond .ne 57, 3) := by decide +kernel
theorem dX2_canBeSet_7 : decode cX2_canBeSet 7 = .ok (.aload_n 0, 1) := by decide +kernel
theorem dX2_canBeSet_8 : decode cX2_canBeSet 8 = .ok (.getfield 39, 3) := by decide +kernel
theorem dX2_canBeSet_11 : decode cX2_canBeSet 11 = .ok (.bipush 12, 2) := by decide +kernel
theorem dX2_canBeSet_13 : decode cX2_canBeSet 13 = .ok (.if_icmp .ne 48, 3) := by decide +kernel
theorem dX2_canBeSet_16 : decode cX2_canBeSet 16 = .ok (.aload_n 0, 1) := by decide +kernel
theorem dX2_canBeSet_17 : decode cX2_canBeSet 17 = .ok (.getfield 10, 3) := by decide +kernel
theorem dX2_canBeSet_20 : decode cX2_canBeSet 20 = .ok (.getfield 117, 3) := by decide +kernel
theorem dX2_canBeSet_23 : decode cX2_canBeSet 23 = .ok (.aload_n 0, 1) := by decide +kernel
theorem dX2_canBeSet_24 : decode cX2_canBeSet 24 = .ok (.getfield 16, 3) := by decide +kernel
theorem dX2_canBeSet_27 : decode cX2_canBeSet 27 = .ok (.getfield 117, 3) := by decide +kernel
theorem dX2_canBeSet_30 : decode cX2_canBeSet 30 = .ok (.if_icmp .ne 31, 3) := by decide +kernel
theorem dX2_canBeSet_33 : decode cX2_canBeSet 33 = .ok (.aload_n 0, 1) := by decide +kernel
theorem dX2_canBeSet_34 : decode cX2_canBeSet 34 = .ok (.getfield 10, 3) := by decide +kernel
theorem dX2_canBeSet_37 : decode cX2_canBeSet 37 = .ok (.getfield 117, 3) := by decide +kernel
theorem dX2_canBeSet_40 : decode cX2_canBeSet 40 = .ok (.bipush 10, 2) := by decide +kernel
theorem dX2_canBeSet_42 : decode cX2_canBeSet 42 = .ok (.if_icmp .eq 15, 3) := by decide +kernel
theorem dX2_canBeSet_45 : decode cX2_canBeSet 45 = .ok (.aload_n 0, 1) := by decide +kernel
theorem dX2_canBeSet_46 : decode cX2_canBeSet 46 = .ok (.getfield 10, 3) := by decide +kernel
theorem dX2_canBeSet_49 : decode cX2_canBeSet 49 = .ok (.getfield 117, 3) := by decide +kernel
theorem dX2_canBeSet_52 : decode cX2_canBeSet 52 = .ok (.bipush 11, 2) := by decide +kernel
theorem dX2_canBeSet_54 : decode cX2_canBeSet 54 = .ok (.if_icmp .ne 7, 3) := by decide +kernel
theorem dX2_canBeSet_57 : decode cX2_canBeSet 57 = .ok (.iconst 1, 1) := by decide +kernel
theorem dX2_canBeSet_58 : decode cX2_canBeSet 58 = .ok (.goto 4, 3) := by decide +kernel
theorem dX2_canBeSet_61 : decode cX2_canBeSet 61 = .ok (.iconst 0, 1) := by decide +kernel
theorem dX2_canBeSet_62 : decode cX2_canBeSet 62 = .ok (.ireturn, 1) := by decide +kernel
theorem dX2_play_0 : decode cX2_play 0 = .ok (.aload_n 0, 1) := by decide +kernel
theorem dX2_play_1 : decode cX2_play 1 = .ok (.getfield 22, 3) := by decide +kernel
theorem dX2_play_4 : decode cX2_play 4 = .ok (.iload_n 2, 1) := by decide +kernel
theorem dX2_play_5 : decode cX2_play 5 = .ok (.iload_n 3, 1) := by decide +kernel
theorem dX2_play_6 : decode cX2_play 6 = .ok (.iload 4, 2) := by decide +kernel
theorem dX2_play_8 : decode cX2_play 8 = .ok (.invokevirtual 224, 3) := by decide +kernel
theorem dX2_play_11 : decode cX2_play 11 = .ok (.aload_n 0, 1) := by decide +kernel
theorem dX2_play_12 : decode cX2_play 12 = .ok (.getfield 26, 3) := by decide +kernel
theorem dX2_play_15 : decode cX2_play 15 = .ok (.aload_n 0, 1) := by decide +kernel
theorem dX2_play_16 : decode cX2_play 16 = .ok (.getfield 22, 3) := by decide +kernel
theorem dX2_play_19 : decode cX2_play 19 = .ok (.invokevirtual 100, 3) := by decide +kernel
theorem dX2_play_22 : decode cX2_play 22 = .ok (.aload_n 0, 1) := by decide +kernel
theorem dX2_play_23 : decode cX2_play 23 = .ok (.getfield 26, 3) := by decide +kernel
theorem dX2_play_26 : decode cX2_play 26 = .ok (.ldc 178, 2) := by decide +kernel
theorem dX2_play_28 : decode cX2_play 28 = .ok (.invokevirtual 228, 3) := by decide +kernel
theorem dX2_play_31 : decode cX2_play 31 = .ok (.aload_n 0, 1) := by decide +kernel
theorem dX2_play_32 : decode cX2_play 32 = .ok (.dup, 1) := by decide +kernel
theorem dX2_play_33 : decode cX2_play 33 = .ok (.getfield 107, 3) := by decide +kernel
theorem dX2_play_36 : decode cX2_play 36 = .ok (.iconst 1, 1) := by decide +kernel
theorem dX2_play_37 : decode cX2_play 37 = .ok (.iadd, 1) := by decide +kernel
theorem dX2_play_38 : decode cX2_play 38 = .ok (.putfield 107, 3) := by decide +kernel
theorem dX2_play_41 : decode cX2_play 41 = .ok (.aload_n 0, 1) := by decide +kernel
theorem dX2_play_42 : decode cX2_play 42 = .ok (.iload_n 1, 1) := by decide +kernel
theorem dX2_play_43 : decode cX2_play 43 = .ok (.invokevirtual 147, 3) := by decide +kernel
theorem dX2_play_46 : decode cX2_play 46 = .ok (.dup, 1) := by decide +kernel
theorem dX2_play_47 : decode cX2_play 47 = .ok (.getfield 231, 3) := by decide +kernel
theorem dX2_play_50 : decode cX2_play 50 = .ok (.iconst 1, 1) := by decide +kernel
theorem dX2_play_51 : decode cX2_play 51 = .ok (.iadd, 1) := by decide +kernel
theorem dX2_play_52 : decode cX2_play 52 = .ok (.putfield 231, 3) := by decide +kernel
theorem dX2_play_55 : decode cX2_play 55 = .ok (.return_, 1) := by decide +kernel
theorem dX2_isEndedBy_0 : decode cX2_isEndedBy 0 = .ok (.aload_n 0, 1) := by decide +kernel
theorem dX2_isEndedBy_1 : decode cX2_isEndedBy 1 = .ok (.getfield 26, 3) := by decide +kernel
theorem dX2_isEndedBy_4 : decode cX2_isEndedBy 4 = .ok (.getfield 232, 3) := by decide +kernel
theorem dX2_isEndedBy_7 : decode cX2_isEndedBy 7 = .ok (.iload_n 1, 1) := by decide +kernel
theorem dX2_isEndedBy_8 : decode cX2_isEndedBy 8 = .ok (.if_icmp .gt 7, 3) := by decide +kernel
theorem dX2_isEndedBy_11 : decode cX2_isEndedBy 11 = .ok (.iconst 1, 1) := by decide +kernel
theorem dX2_isEndedBy_12 : decode cX2_isEndedBy 12 = .ok (.goto 4, 3) := by decide +kernel
theorem dX2_isEndedBy_15 : decode cX2_isEndedBy 15 = .ok (.iconst 0, 1) := by decide +kernel
theorem dX2_isEndedBy_16 : decode cX2_isEndedBy 16 = .ok (.ireturn, 1) := by decide +kernel
theorem dX2_lookAhead_0 : decode cX2_lookAhead 0 = .ok (.aload_n 0, 1) := by decide +kernel
theorem dX2_lookAhead_1 : decode cX2_lookAhead 1 = .ok (.getfield 29, 3) := by decide +kernel
theorem dX2_lookAhead_4 : decode cX2_lookAhead 4 = .ok (.aload_n 0, 1) := by decide +kernel
theorem dX2_lookAhead_5 : decode cX2_lookAhead 5 = .ok (.getfield 22, 3) := by decide +kernel
theorem dX2_lookAhead_8 : decode cX2_lookAhead 8 = .ok (.invokevirtual 100, 3) := by decide +kernel
theorem dX2_lookAhead_11 : decode cX2_lookAhead 11 = .ok (.aload_n 0, 1) := by decide +kernel
theorem dX2_lookAhead_12 : decode cX2_lookAhead 12 = .ok (.getfield 29, 3) := by decide +kernel
theorem dX2_lookAhead_15 : decode cX2_lookAhead 15 = .ok (.iload_n 1, 1) := by decide +kernel
theorem dX2_lookAhead_16 : decode cX2_lookAhead 16 = .ok (.invokevirtual 228, 3) := by decide +kernel
theorem dX2_lookAhead_19 : decode cX2_lookAhead 19 = .ok (.return_, 1) := by decide +kernel
theorem dX2_placeAhead_0 : decode cX2_placeAhead 0 = .ok (.aload_n 0, 1) := by decide +kernel
theorem dX2_placeAhead_1 : decode cX2_placeAhead 1 = .ok (.getfield 56, 3) := by decide +kernel
theorem dX2_placeAhead_4 : decode cX2_placeAhead 4 = .ok (.ifCond .ne 27, 3) := by decide +kernel
theorem dX2_placeAhead_7 : decode cX2_placeAhead 7 = .ok (.aload_n 0, 1) := by decide +kernel
theorem dX2_placeAhead_8 : decode cX2_placeAhead 8 = .ok (.getfield 29, 3) := by decide +kernel
theorem dX2_placeAhead_11 : decode cX2_placeAhead 11 = .ok (.invokevirtual 69, 3) := by decide +kernel
theorem dX2_placeAhead_14 : decode cX2_placeAhead 14 = .ok (.iload_n 1, 1) := by decide +kernel
theorem dX2_placeAhead_15 : decode cX2_placeAhead 15 = .ok (.ifCond .ne 14, 3) := by decide +kernel
theorem dX2_placeAhead_18 : decode cX2_placeAhead 18 = .ok (.aload_n 0, 1) := by decide +kernel
theorem dX2_placeAhead_19 : decode cX2_placeAhead 19 = .ok (.invokevirtual 60, 3) := by decide +kernel
theorem dX2_placeAhead_22 : decode cX2_placeAhead 22 = .ok (.ifCond .ne 7, 3) := by decide +kernel
theorem dX2_placeAhead_25 : decode cX2_placeAhead 25 = .ok (.iconst 1, 1) := by decide +kernel
theorem dX2_placeAhead_26 : decode cX2_placeAhead 26 = .ok (.goto 4, 3) := by decide +kernel
theorem dX2_placeAhead_29 : decode cX2_placeAhead 29 = .ok (.iconst 0, 1) := by decide +kernel
theorem dX2_placeAhead_30 : decode cX2_placeAhead 30 = .ok (.ireturn, 1) := by decide +kernel
theorem dX2_placeAhead_31 : decode cX2_placeAhead 31 = .ok (.iload_n 1, 1) := by decide +kernel
theorem dX2_placeAhead_32 : decode cX2_placeAhead 32 = .ok (.ifCond .eq 11, 3) := by decide +kernel
theorem dX2_placeAhead_35 : decode cX2_placeAhead 35 = .ok (.aload_n 0, 1) := by decide +kernel
theorem dX2_placeAhead_36 : decode cX2_placeAhead 36 = .ok (.iload_n 1, 1) := by decide +kernel
theorem dX2_placeAhead_37 : decode cX2_placeAhead 37 = .ok (.invokevirtual 78, 3) := by decide +kernel
theorem dX2_placeAhead_40 : decode cX2_placeAhead 40 = .ok (.ifCond .eq 5, 3) := by decide +kernel
theorem dX2_placeAhead_43 : decode cX2_placeAhead 43 = .ok (.iconst 0, 1) := by decide +kernel
theorem dX2_placeAhead_44 : decode cX2_placeAhead 44 = .ok (.ireturn, 1) := by decide +kernel
theorem dX2_placeAhead_45 : decode cX2_placeAhead 45 = .ok (.aload_n 0, 1) := by decide +kernel
theorem dX2_placeAhead_46 : decode cX2_placeAhead 46 = .ok (.iload_n 1, 1) := by decide +kernel
theorem dX2_placeAhead_47 : decode cX2_placeAhead 47 = .ok (.invokevirtual 90, 3) := by decide +kernel
theorem dX2_placeAhead_50 : decode cX2_placeAhead 50 = .ok (.aload_n 0, 1) := by decide +kernel
theorem dX2_placeAhead_51 : decode cX2_placeAhead 51 = .ok (.getfield 29, 3) := by decide +kernel
theorem dX2_placeAhead_54 : decode cX2_placeAhead 54 = .ok (.getfield 94, 3) := by decide +kernel
theorem dX2_placeAhead_57 : decode cX2_placeAhead 57 = .ok (.ifCond .le 7, 3) := by decide +kernel
theorem dX2_placeAhead_60 : decode cX2_placeAhead 60 = .ok (.iconst 1, 1) := by decide +kernel
theorem dX2_placeAhead_61 : decode cX2_placeAhead 61 = .ok (.goto 4, 3) := by decide +kernel
theorem dX2_placeAhead_64 : decode cX2_placeAhead 64 = .ok (.iconst 0, 1) := by decide +kernel
theorem dX2_placeAhead_65 : decode cX2_placeAhead 65 = .ok (.ireturn, 1) := by decide +kernel
theorem dX2_tryStroke_0 : decode cX2_tryStroke 0 = .ok (.aload_n 0, 1) := by decide +kernel
theorem dX2_tryStroke_1 : decode cX2_tryStroke 1 = .ok (.getfield 32, 3) := by decide +kernel
theorem dX2_tryStroke_4 : decode cX2_tryStroke 4 = .ok (.aload_n 0, 1) := by decide +kernel
theorem dX2_tryStroke_5 : decode cX2_tryStroke 5 = .ok (.getfield 29, 3) := by decide +kernel
theorem dX2_tryStroke_8 : decode cX2_tryStroke 8 = .ok (.invokevirtual 100, 3) := by decide +kernel
theorem dX2_tryStroke_11 : decode cX2_tryStroke 11 = .ok (.aload_n 0, 1) := by decide +kernel
theorem dX2_tryStroke_12 : decode cX2_tryStroke 12 = .ok (.getfield 32, 3) := by decide +kernel
theorem dX2_tryStroke_15 : decode cX2_tryStroke 15 = .ok (.iload_n 1, 1) := by decide +kernel
theorem dX2_tryStroke_16 : decode cX2_tryStroke 16 = .ok (.iload_n 2, 1) := by decide +kernel
theorem dX2_tryStroke_17 : decode cX2_tryStroke 17 = .ok (.iload_n 3, 1) := by decide +kernel
theorem dX2_tryStroke_18 : decode cX2_tryStroke 18 = .ok (.invokevirtual 224, 3) := by decide +kernel
theorem dX2_tryStroke_21 : decode cX2_tryStroke 21 = .ok (.aload_n 0, 1) := by decide +kernel
theorem dX2_tryStroke_22 : decode cX2_tryStroke 22 = .ok (.getfield 32, 3) := by decide +kernel
theorem dX2_tryStroke_25 : decode cX2_tryStroke 25 = .ok (.iload 4, 2) := by decide +kernel
theorem dX2_tryStroke_27 : decode cX2_tryStroke 27 = .ok (.invokevirtual 228, 3) := by decide +kernel
theorem dX2_tryStroke_30 : decode cX2_tryStroke 30 = .ok (.return_, 1) := by decide +kernel
theorem dX2_shortestDeadStroke_0 : decode cX2_shortestDeadStroke 0 = .ok (.iconst (-1), 1) := by decide +kernel
theorem dX2_shortestDeadStroke_1 : decode cX2_shortestDeadStroke 1 = .ok (.istore_n 1, 1) := by decide +kernel
theorem dX2_shortestDeadStroke_2 : decode cX2_shortestDeadStroke 2 = .ok (.ldc 178, 2) := by decide +kernel
theorem dX2_shortestDeadStroke_4 : decode cX2_shortestDeadStroke 4 = .ok (.istore_n 2, 1) := by decide +kernel
theorem dX2_shortestDeadStroke_5 : decode cX2_shortestDeadStroke 5 = .ok (.bipush (-2), 2) := by decide +kernel
theorem dX2_shortestDeadStroke_7 : decode cX2_shortestDeadStroke 7 = .ok (.istore_n 3, 1) := by decide +kernel
theorem dX2_shortestDeadStroke_8 : decode cX2_shortestDeadStroke 8 = .ok (.iload_n 3, 1) := by decide +kernel
theorem dX2_shortestDeadStroke_9 : decode cX2_shortestDeadStroke 9 = .ok (.iconst 2, 1) := by decide +kernel
theorem dX2_shortestDeadStroke_10 : decode cX2_shortestDeadStroke 10 = .ok (.if_icmp .gt 90, 3) := by decide +kernel
theorem dX2_shortestDeadStroke_13 : decode cX2_shortestDeadStroke 13 = .ok (.bipush (-2), 2) := by decide +kernel
theorem dX2_shortestDeadStroke_15 : decode cX2_shortestDeadStroke 15 = .ok (.istore 4, 2) := by decide +kernel
theorem dX2_shortestDeadStroke_17 : decode cX2_shortestDeadStroke 17 = .ok (.iload 4, 2) := by decide +kernel
theorem dX2_shortestDeadStroke_19 : decode cX2_shortestDeadStroke 19 = .ok (.iconst 2, 1) := by decide +kernel
theorem dX2_shortestDeadStroke_20 : decode cX2_shortestDeadStroke 20 = .ok (.if_icmp .gt 74, 3) := by decide +kernel
theorem dX2_shortestDeadStroke_23 : decode cX2_shortestDeadStroke 23 = .ok (.iconst 0, 1) := by decide +kernel
theorem dX2_shortestDeadStroke_24 : decode cX2_shortestDeadStroke 24 = .ok (.istore 5, 2) := by decide +kernel
theorem dX2_shortestDeadStroke_26 : decode cX2_shortestDeadStroke 26 = .ok (.iload 5, 2) := by decide +kernel
theorem dX2_shortestDeadStroke_28 : decode cX2_shortestDeadStroke 28 = .ok (.bipush 9, 2) := by decide +kernel
theorem dX2_shortestDeadStroke_30 : decode cX2_shortestDeadStroke 30 = .ok (.if_icmp .gt 58, 3) := by decide +kernel
theorem dX2_shortestDeadStroke_33 : decode cX2_shortestDeadStroke 33 = .ok (.aload_n 0, 1) := by decide +kernel
theorem dX2_shortestDeadStroke_34 : decode cX2_shortestDeadStroke 34 = .ok (.iload_n 3, 1) := by decide +kernel
theorem dX2_shortestDeadStroke_35 : decode cX2_shortestDeadStroke 35 = .ok (.iload 4, 2) := by decide +kernel
theorem dX2_shortestDeadStroke_37 : decode cX2_shortestDeadStroke 37 = .ok (.iload 5, 2) := by decide +kernel
theorem dX2_shortestDeadStroke_39 : decode cX2_shortestDeadStroke 39 = .ok (.iload_n 2, 1) := by decide +kernel
theorem dX2_shortestDeadStroke_40 : decode cX2_shortestDeadStroke 40 = .ok (.invokevirtual 179, 3) := by decide +kernel
theorem dX2_shortestDeadStroke_43 : decode cX2_shortestDeadStroke 43 = .ok (.aload_n 0, 1) := by decide +kernel
theorem dX2_shortestDeadStroke_44 : decode cX2_shortestDeadStroke 44 = .ok (.getfield 32, 3) := by decide +kernel
theorem dX2_shortestDeadStroke_47 : decode cX2_shortestDeadStroke 47 = .ok (.getfield 182, 3) := by decide +kernel
theorem dX2_shortestDeadStroke_50 : decode cX2_shortestDeadStroke 50 = .ok (.iconst 3, 1) := by decide +kernel
theorem dX2_shortestDeadStroke_51 : decode cX2_shortestDeadStroke 51 = .ok (.if_icmp .ne 31, 3) := by decide +kernel
theorem dX2_shortestDeadStroke_54 : decode cX2_shortestDeadStroke 54 = .ok (.bipush 50, 2) := by decide +kernel
theorem dX2_shortestDeadStroke_56 : decode cX2_shortestDeadStroke 56 = .ok (.iload_n 3, 1) := by decide +kernel
theorem dX2_shortestDeadStroke_57 : decode cX2_shortestDeadStroke 57 = .ok (.iconst 2, 1) := by decide +kernel
theorem dX2_shortestDeadStroke_58 : decode cX2_shortestDeadStroke 58 = .ok (.iadd, 1) := by decide +kernel
theorem dX2_shortestDeadStroke_59 : decode cX2_shortestDeadStroke 59 = .ok (.imul, 1) := by decide +kernel
theorem dX2_shortestDeadStroke_60 : decode cX2_shortestDeadStroke 60 = .ok (.bipush 10, 2) := by decide +kernel
theorem dX2_shortestDeadStroke_62 : decode cX2_shortestDeadStroke 62 = .ok (.iload 4, 2) := by decide +kernel
theorem dX2_shortestDeadStroke_64 : decode cX2_shortestDeadStroke 64 = .ok (.iconst 2, 1) := by decide +kernel
theorem dX2_shortestDeadStroke_65 : decode cX2_shortestDeadStroke 65 = .ok (.iadd, 1) := by decide +kernel
theorem dX2_shortestDeadStroke_66 : decode cX2_shortestDeadStroke 66 = .ok (.imul, 1) := by decide +kernel
theorem dX2_shortestDeadStroke_67 : decode cX2_shortestDeadStroke 67 = .ok (.iadd, 1) := by decide +kernel
theorem dX2_shortestDeadStroke_68 : decode cX2_shortestDeadStroke 68 = .ok (.iload 5, 2) := by decide +kernel
theorem dX2_shortestDeadStroke_70 : decode cX2_shortestDeadStroke 70 = .ok (.iadd, 1) := by decide +kernel
theorem dX2_shortestDeadStroke_71 : decode cX2_shortestDeadStroke 71 = .ok (.istore_n 1, 1) := by decide +kernel
theorem dX2_shortestDeadStroke_72 : decode cX2_shortestDeadStroke 72 = .ok (.aload_n 0, 1) := by decide +kernel
theorem dX2_shortestDeadStroke_73 : decode cX2_shortestDeadStroke 73 = .ok (.getfield 32, 3) := by decide +kernel
theorem dX2_shortestDeadStroke_76 : decode cX2_shortestDeadStroke 76 = .ok (.getfield 232, 3) := by decide +kernel
theorem dX2_shortestDeadStroke_79 : decode cX2_shortestDeadStroke 79 = .ok (.iconst 1, 1) := by decide +kernel
theorem dX2_shortestDeadStroke_80 : decode cX2_shortestDeadStroke 80 = .ok (.isub, 1) := by decide +kernel
theorem dX2_shortestDeadStroke_81 : decode cX2_shortestDeadStroke 81 = .ok (.istore_n 2, 1) := by decide +kernel
theorem dX2_shortestDeadStroke_82 : decode cX2_shortestDeadStroke 82 = .ok (.iinc 5 1, 3) := by decide +kernel
theorem dX2_shortestDeadStroke_85 : decode cX2_shortestDeadStroke 85 = .ok (.goto (-59), 3) := by decide +kernel
theorem dX2_shortestDeadStroke_88 : decode cX2_shortestDeadStroke 88 = .ok (.iinc 4 1, 3) := by decide +kernel
theorem dX2_shortestDeadStroke_91 : decode cX2_shortestDeadStroke 91 = .ok (.goto (-74), 3) := by decide +kernel
theorem dX2_shortestDeadStroke_94 : decode cX2_shortestDeadStroke 94 = .ok (.iinc 3 1, 3) := by decide +kernel
theorem dX2_shortestDeadStroke_97 : decode cX2_shortestDeadStroke 97 = .ok (.goto (-89), 3) := by decide +kernel
theorem dX2_shortestDeadStroke_100 : decode cX2_shortestDeadStroke 100 = .ok (.iload_n 1, 1) := by decide +kernel
theorem dX2_shortestDeadStroke_101 : decode cX2_shortestDeadStroke 101 = .ok (.ireturn, 1) := by decide +kernel
theorem dX3_init_0 : decode cX3_init 0 = .ok (.aload_n 0, 1) := by decide +kernel
theorem dX3_init_1 : decode cX3_init 1 = .ok (.invokespecial 1, 3) := by decide +kernel
theorem dX3_init_4 : decode cX3_init 4 = .ok (.return_, 1) := by decide +kernel
theorem dX3_of_0 : decode cX3_of 0 = .ok (.new 7, 3) := by decide +kernel
theorem dX3_of_3 : decode cX3_of 3 = .ok (.dup, 1) := by decide +kernel
theorem dX3_of_4 : decode cX3_of 4 = .ok (.invokespecial 9, 3) := by decide +kernel
theorem dX3_of_7 : decode cX3_of 7 = .ok (.astore 6, 2) := by decide +kernel
theorem dX3_of_9 : decode cX3_of 9 = .ok (.aload 6, 2) := by decide +kernel
theorem dX3_of_11 : decode cX3_of 11 = .ok (.iload_n 0, 1) := by decide +kernel
theorem dX3_of_12 : decode cX3_of 12 = .ok (.putfield 10, 3) := by decide +kernel
theorem dX3_of_15 : decode cX3_of 15 = .ok (.aload 6, 2) := by decide +kernel
theorem dX3_of_17 : decode cX3_of 17 = .ok (.iload_n 1, 1) := by decide +kernel
theorem dX3_of_18 : decode cX3_of 18 = .ok (.putfield 14, 3) := by decide +kernel
theorem dX3_of_21 : decode cX3_of 21 = .ok (.aload 6, 2) := by decide +kernel
theorem dX3_of_23 : decode cX3_of 23 = .ok (.iload_n 2, 1) := by decide +kernel
theorem dX3_of_24 : decode cX3_of 24 = .ok (.iconst 1, 1) := by decide +kernel
theorem dX3_of_25 : decode cX3_of 25 = .ok (.if_icmp .ge 7, 3) := by decide +kernel
theorem dX3_of_28 : decode cX3_of 28 = .ok (.iconst 1, 1) := by decide +kernel
theorem dX3_of_29 : decode cX3_of 29 = .ok (.goto 4, 3) := by decide +kernel
theorem dX3_of_32 : decode cX3_of 32 = .ok (.iload_n 2, 1) := by decide +kernel
theorem dX3_of_33 : decode cX3_of 33 = .ok (.putfield 17, 3) := by decide +kernel
theorem dX3_of_36 : decode cX3_of 36 = .ok (.aload 6, 2) := by decide +kernel
theorem dX3_of_38 : decode cX3_of 38 = .ok (.iload_n 3, 1) := by decide +kernel
theorem dX3_of_39 : decode cX3_of 39 = .ok (.putfield 20, 3) := by decide +kernel
theorem dX3_of_42 : decode cX3_of 42 = .ok (.aload 6, 2) := by decide +kernel
theorem dX3_of_44 : decode cX3_of 44 = .ok (.iload 4, 2) := by decide +kernel
theorem dX3_of_46 : decode cX3_of 46 = .ok (.putfield 23, 3) := by decide +kernel
theorem dX3_of_49 : decode cX3_of 49 = .ok (.aload 6, 2) := by decide +kernel
theorem dX3_of_51 : decode cX3_of 51 = .ok (.iload 5, 2) := by decide +kernel
theorem dX3_of_53 : decode cX3_of 53 = .ok (.putfield 26, 3) := by decide +kernel
theorem dX3_of_56 : decode cX3_of 56 = .ok (.aload 6, 2) := by decide +kernel
theorem dX3_of_58 : decode cX3_of 58 = .ok (.areturn, 1) := by decide +kernel
theorem dX3_copy_0 : decode cX3_copy 0 = .ok (.aload_n 0, 1) := by decide +kernel
theorem dX3_copy_1 : decode cX3_copy 1 = .ok (.getfield 10, 3) := by decide +kernel
theorem dX3_copy_4 : decode cX3_copy 4 = .ok (.aload_n 0, 1) := by decide +kernel
theorem dX3_copy_5 : decode cX3_copy 5 = .ok (.getfield 14, 3) := by decide +kernel
theorem dX3_copy_8 : decode cX3_copy 8 = .ok (.iconst 1, 1) := by decide +kernel
theorem dX3_copy_9 : decode cX3_copy 9 = .ok (.aload_n 0, 1) := by decide +kernel
theorem dX3_copy_10 : decode cX3_copy 10 = .ok (.getfield 20, 3) := by decide +kernel
theorem dX3_copy_13 : decode cX3_copy 13 = .ok (.aload_n 0, 1) := by decide +kernel
theorem dX3_copy_14 : decode cX3_copy 14 = .ok (.getfield 23, 3) := by decide +kernel
theorem dX3_copy_17 : decode cX3_copy 17 = .ok (.aload_n 0, 1) := by decide +kernel
theorem dX3_copy_18 : decode cX3_copy 18 = .ok (.getfield 26, 3) := by decide +kernel
theorem dX3_copy_21 : decode cX3_copy 21 = .ok (.invokestatic 29, 3) := by decide +kernel
theorem dX3_copy_24 : decode cX3_copy 24 = .ok (.astore_n 1, 1) := by decide +kernel
theorem dX3_copy_25 : decode cX3_copy 25 = .ok (.aload_n 1, 1) := by decide +kernel
theorem dX3_copy_26 : decode cX3_copy 26 = .ok (.aload_n 0, 1) := by decide +kernel
theorem dX3_copy_27 : decode cX3_copy 27 = .ok (.getfield 17, 3) := by decide +kernel
theorem dX3_copy_30 : decode cX3_copy 30 = .ok (.putfield 17, 3) := by decide +kernel
theorem dX3_copy_33 : decode cX3_copy 33 = .ok (.aload_n 1, 1) := by decide +kernel
theorem dX3_copy_34 : decode cX3_copy 34 = .ok (.aload_n 0, 1) := by decide +kernel
theorem dX3_copy_35 : decode cX3_copy 35 = .ok (.getfield 33, 3) := by decide +kernel
theorem dX3_copy_38 : decode cX3_copy 38 = .ok (.putfield 33, 3) := by decide +kernel
theorem dX3_copy_41 : decode cX3_copy 41 = .ok (.aload_n 1, 1) := by decide +kernel
theorem dX3_copy_42 : decode cX3_copy 42 = .ok (.aload_n 0, 1) := by decide +kernel
theorem dX3_copy_43 : decode cX3_copy 43 = .ok (.getfield 36, 3) := by decide +kernel
theorem dX3_copy_46 : decode cX3_copy 46 = .ok (.putfield 36, 3) := by decide +kernel
theorem dX3_copy_49 : decode cX3_copy 49 = .ok (.aload_n 1, 1) := by decide +kernel
theorem dX3_copy_50 : decode cX3_copy 50 = .ok (.aload_n 0, 1) := by decide +kernel
theorem dX3_copy_51 : decode cX3_copy 51 = .ok (.getfield 39, 3) := by decide +kernel
theorem dX3_copy_54 : decode cX3_copy 54 = .ok (.putfield 39, 3) := by decide +kernel
theorem dX3_copy_57 : decode cX3_copy 57 = .ok (.aload_n 1, 1) := by decide +kernel
theorem dX3_copy_58 : decode cX3_copy 58 = .ok (.aload_n 0, 1) := by decide +kernel
theorem dX3_copy_59 : decode cX3_copy 59 = .ok (.getfield 42, 3) := by decide +kernel
theorem dX3_copy_62 : decode cX3_copy 62 = .ok (.putfield 42, 3) := by decide +kernel
theorem dX3_copy_65 : decode cX3_copy 65 = .ok (.aload_n 1, 1) := by decide +kernel
theorem dX3_copy_66 : decode cX3_copy 66 = .ok (.areturn, 1) := by decide +kernel
theorem dX3_isFree_0 : decode cX3_isFree 0 = .ok (.iload_n 0, 1) := by decide +kernel
theorem dX3_isFree_1 : decode cX3_isFree 1 = .ok (.ifCond .lt 30, 3) := by decide +kernel
theorem dX3_isFree_4 : decode cX3_isFree 4 = .ok (.iload_n 0, 1) := by decide +kernel
theorem dX3_isFree_5 : decode cX3_isFree 5 = .ok (.bipush 12, 2) := by decide +kernel
theorem dX3_isFree_7 : decode cX3_isFree 7 = .ok (.if_icmp .ge 24, 3) := by decide +kernel
theorem dX3_isFree_10 : decode cX3_isFree 10 = .ok (.iload_n 0, 1) := by decide +kernel
theorem dX3_isFree_11 : decode cX3_isFree 11 = .ok (.iconst 1, 1) := by decide +kernel
theorem dX3_isFree_12 : decode cX3_isFree 12 = .ok (.if_icmp .gt 15, 3) := by decide +kernel
theorem dX3_isFree_15 : decode cX3_isFree 15 = .ok (.iload_n 1, 1) := by decide +kernel
theorem dX3_isFree_16 : decode cX3_isFree 16 = .ok (.bipush 10, 2) := by decide +kernel
theorem dX3_isFree_18 : decode cX3_isFree 18 = .ok (.if_icmp .lt 9, 3) := by decide +kernel
theorem dX3_isFree_21 : decode cX3_isFree 21 = .ok (.iload_n 1, 1) := by decide +kernel
theorem dX3_isFree_22 : decode cX3_isFree 22 = .ok (.bipush 12, 2) := by decide +kernel
theorem dX3_isFree_24 : decode cX3_isFree 24 = .ok (.if_icmp .le 7, 3) := by decide +kernel
theorem dX3_isFree_27 : decode cX3_isFree 27 = .ok (.iconst 1, 1) := by decide +kernel
theorem dX3_isFree_28 : decode cX3_isFree 28 = .ok (.goto 4, 3) := by decide +kernel
theorem dX3_isFree_31 : decode cX3_isFree 31 = .ok (.iconst 0, 1) := by decide +kernel
theorem dX3_isFree_32 : decode cX3_isFree 32 = .ok (.ireturn, 1) := by decide +kernel
theorem dX3_go_0 : decode cX3_go 0 = .ok (.aload_n 0, 1) := by decide +kernel
theorem dX3_go_1 : decode cX3_go 1 = .ok (.dup, 1) := by decide +kernel
theorem dX3_go_2 : decode cX3_go 2 = .ok (.getfield 42, 3) := by decide +kernel
theorem dX3_go_5 : decode cX3_go 5 = .ok (.iconst 1, 1) := by decide +kernel
theorem dX3_go_6 : decode cX3_go 6 = .ok (.iadd, 1) := by decide +kernel
theorem dX3_go_7 : decode cX3_go 7 = .ok (.putfield 42, 3) := by decide +kernel
theorem dX3_go_10 : decode cX3_go 10 = .ok (.aload_n 0, 1) := by decide +kernel
theorem dX3_go_11 : decode cX3_go 11 = .ok (.getfield 20, 3) := by decide +kernel
theorem dX3_go_14 : decode cX3_go 14 = .ok (.ifCond .ge 11, 3) := by decide +kernel
theorem dX3_go_17 : decode cX3_go 17 = .ok (.aload_n 0, 1) := by decide +kernel
theorem dX3_go_18 : decode cX3_go 18 = .ok (.getfield 20, 3) := by decide +kernel
theorem dX3_go_21 : decode cX3_go 21 = .ok (.ineg, 1) := by decide +kernel
theorem dX3_go_22 : decode cX3_go 22 = .ok (.goto 7, 3) := by decide +kernel
theorem dX3_go_25 : decode cX3_go 25 = .ok (.aload_n 0, 1) := by decide +kernel
theorem dX3_go_26 : decode cX3_go 26 = .ok (.getfield 20, 3) := by decide +kernel
theorem dX3_go_29 : decode cX3_go 29 = .ok (.istore_n 1, 1) := by decide +kernel
theorem dX3_go_30 : decode cX3_go 30 = .ok (.iconst 0, 1) := by decide +kernel
theorem dX3_go_31 : decode cX3_go 31 = .ok (.istore_n 2, 1) := by decide +kernel
theorem dX3_go_32 : decode cX3_go 32 = .ok (.iload_n 2, 1) := by decide +kernel
theorem dX3_go_33 : decode cX3_go 33 = .ok (.iload_n 1, 1) := by decide +kernel
theorem dX3_go_34 : decode cX3_go 34 = .ok (.if_icmp .ge 70, 3) := by decide +kernel
theorem dX3_go_37 : decode cX3_go 37 = .ok (.aload_n 0, 1) := by decide +kernel
theorem dX3_go_38 : decode cX3_go 38 = .ok (.getfield 20, 3) := by decide +kernel
theorem dX3_go_41 : decode cX3_go 41 = .ok (.ifCond .le 12, 3) := by decide +kernel
theorem dX3_go_44 : decode cX3_go 44 = .ok (.aload_n 0, 1) := by decide +kernel
theorem dX3_go_45 : decode cX3_go 45 = .ok (.getfield 10, 3) := by decide +kernel
theorem dX3_go_48 : decode cX3_go 48 = .ok (.iconst 1, 1) := by decide +kernel
theorem dX3_go_49 : decode cX3_go 49 = .ok (.iadd, 1) := by decide +kernel
theorem dX3_go_50 : decode cX3_go 50 = .ok (.goto 9, 3) := by decide +kernel
theorem dX3_go_53 : decode cX3_go 53 = .ok (.aload_n 0, 1) := by decide +kernel
theorem dX3_go_54 : decode cX3_go 54 = .ok (.getfield 10, 3) := by decide +kernel
theorem dX3_go_57 : decode cX3_go 57 = .ok (.iconst 1, 1) := by decide +kernel
theorem dX3_go_58 : decode cX3_go 58 = .ok (.isub, 1) := by decide +kernel
theorem dX3_go_59 : decode cX3_go 59 = .ok (.istore_n 3, 1) := by decide +kernel
theorem dX3_go_60 : decode cX3_go 60 = .ok (.iload_n 3, 1) := by decide +kernel
theorem dX3_go_61 : decode cX3_go 61 = .ok (.aload_n 0, 1) := by decide +kernel
theorem dX3_go_62 : decode cX3_go 62 = .ok (.getfield 14, 3) := by decide +kernel
theorem dX3_go_65 : decode cX3_go 65 = .ok (.invokestatic 45, 3) := by decide +kernel
theorem dX3_go_68 : decode cX3_go 68 = .ok (.ifCond .eq 11, 3) := by decide +kernel
theorem dX3_go_71 : decode cX3_go 71 = .ok (.aload_n 0, 1) := by decide +kernel
theorem dX3_go_72 : decode cX3_go 72 = .ok (.iload_n 3, 1) := by decide +kernel
theorem dX3_go_73 : decode cX3_go 73 = .ok (.putfield 10, 3) := by decide +kernel
theorem dX3_go_76 : decode cX3_go 76 = .ok (.goto 22, 3) := by decide +kernel
theorem dX3_go_79 : decode cX3_go 79 = .ok (.aload_n 0, 1) := by decide +kernel
theorem dX3_go_80 : decode cX3_go 80 = .ok (.aload_n 0, 1) := by decide +kernel
theorem dX3_go_81 : decode cX3_go 81 = .ok (.getfield 20, 3) := by decide +kernel
theorem dX3_go_84 : decode cX3_go 84 = .ok (.ineg, 1) := by decide +kernel
theorem dX3_go_85 : decode cX3_go 85 = .ok (.putfield 20, 3) := by decide +kernel
theorem dX3_go_88 : decode cX3_go 88 = .ok (.aload_n 0, 1) := by decide +kernel
theorem dX3_go_89 : decode cX3_go 89 = .ok (.dup, 1) := by decide +kernel
theorem dX3_go_90 : decode cX3_go 90 = .ok (.getfield 39, 3) := by decide +kernel
theorem dX3_go_93 : decode cX3_go 93 = .ok (.iconst 1, 1) := by decide +kernel
theorem dX3_go_94 : decode cX3_go 94 = .ok (.iadd, 1) := by decide +kernel
theorem dX3_go_95 : decode cX3_go 95 = .ok (.putfield 39, 3) := by decide +kernel
theorem dX3_go_98 : decode cX3_go 98 = .ok (.iinc 2 1, 3) := by decide +kernel
theorem dX3_go_101 : decode cX3_go 101 = .ok (.goto (-69), 3) := by decide +kernel
theorem dX3_go_104 : decode cX3_go 104 = .ok (.aload_n 0, 1) := by decide +kernel
theorem dX3_go_105 : decode cX3_go 105 = .ok (.getfield 23, 3) := by decide +kernel
theorem dX3_go_108 : decode cX3_go 108 = .ok (.ifCond .ge 11, 3) := by decide +kernel
theorem dX3_go_111 : decode cX3_go 111 = .ok (.aload_n 0, 1) := by decide +kernel
theorem dX3_go_112 : decode cX3_go 112 = .ok (.getfield 23, 3) := by decide +kernel
theorem dX3_go_115 : decode cX3_go 115 = .ok (.ineg, 1) := by decide +kernel
theorem dX3_go_116 : decode cX3_go 116 = .ok (.goto 7, 3) := by decide +kernel
theorem dX3_go_119 : decode cX3_go 119 = .ok (.aload_n 0, 1) := by decide +kernel
theorem dX3_go_120 : decode cX3_go 120 = .ok (.getfield 23, 3) := by decide +kernel
theorem dX3_go_123 : decode cX3_go 123 = .ok (.istore_n 1, 1) := by decide +kernel
theorem dX3_go_124 : decode cX3_go 124 = .ok (.iconst 0, 1) := by decide +kernel
theorem dX3_go_125 : decode cX3_go 125 = .ok (.istore_n 2, 1) := by decide +kernel
theorem dX3_go_126 : decode cX3_go 126 = .ok (.iload_n 2, 1) := by decide +kernel
theorem dX3_go_127 : decode cX3_go 127 = .ok (.iload_n 1, 1) := by decide +kernel
theorem dX3_go_128 : decode cX3_go 128 = .ok (.if_icmp .ge 122, 3) := by decide +kernel
theorem dX3_go_131 : decode cX3_go 131 = .ok (.aload_n 0, 1) := by decide +kernel
theorem dX3_go_132 : decode cX3_go 132 = .ok (.getfield 23, 3) := by decide +kernel
theorem dX3_go_135 : decode cX3_go 135 = .ok (.ifCond .le 12, 3) := by decide +kernel
theorem dX3_go_138 : decode cX3_go 138 = .ok (.aload_n 0, 1) := by decide +kernel
theorem dX3_go_139 : decode cX3_go 139 = .ok (.getfield 14, 3) := by decide +kernel
theorem dX3_go_142 : decode cX3_go 142 = .ok (.iconst 1, 1) := by decide +kernel
theorem dX3_go_143 : decode cX3_go 143 = .ok (.iadd, 1) := by decide +kernel
theorem dX3_go_144 : decode cX3_go 144 = .ok (.goto 9, 3) := by decide +kernel
theorem dX3_go_147 : decode cX3_go 147 = .ok (.aload_n 0, 1) := by decide +kernel
theorem dX3_go_148 : decode cX3_go 148 = .ok (.getfield 14, 3) := by decide +kernel
theorem dX3_go_151 : decode cX3_go 151 = .ok (.iconst 1, 1) := by decide +kernel
theorem dX3_go_152 : decode cX3_go 152 = .ok (.isub, 1) := by decide +kernel
theorem dX3_go_153 : decode cX3_go 153 = .ok (.istore_n 3, 1) := by decide +kernel
theorem dX3_go_154 : decode cX3_go 154 = .ok (.iload_n 3, 1) := by decide +kernel
theorem dX3_go_155 : decode cX3_go 155 = .ok (.bipush 29, 2) := by decide +kernel
theorem dX3_go_157 : decode cX3_go 157 = .ok (.if_icmp .le 16, 3) := by decide +kernel
theorem dX3_go_160 : decode cX3_go 160 = .ok (.aload_n 0, 1) := by decide +kernel
theorem dX3_go_161 : decode cX3_go 161 = .ok (.getfield 36, 3) := by decide +kernel
theorem dX3_go_164 : decode cX3_go 164 = .ok (.ifCond .ne 7, 3) := by decide +kernel
theorem dX3_go_167 : decode cX3_go 167 = .ok (.iconst 2, 1) := by decide +kernel
theorem dX3_go_168 : decode cX3_go 168 = .ok (.goto 4, 3) := by decide +kernel
theorem dX3_go_171 : decode cX3_go 171 = .ok (.iconst 3, 1) := by decide +kernel
theorem dX3_go_172 : decode cX3_go 172 = .ok (.ireturn, 1) := by decide +kernel
theorem dX3_go_173 : decode cX3_go 173 = .ok (.iload_n 3, 1) := by decide +kernel
theorem dX3_go_174 : decode cX3_go 174 = .ok (.ifCond .ge 32, 3) := by decide +kernel
theorem dX3_go_177 : decode cX3_go 177 = .ok (.aload_n 0, 1) := by decide +kernel
theorem dX3_go_178 : decode cX3_go 178 = .ok (.aload_n 0, 1) := by decide +kernel
theorem dX3_go_179 : decode cX3_go 179 = .ok (.getfield 23, 3) := by decide +kernel
theorem dX3_go_182 : decode cX3_go 182 = .ok (.ineg, 1) := by decide +kernel
theorem dX3_go_183 : decode cX3_go 183 = .ok (.putfield 23, 3) := by decide +kernel
theorem dX3_go_186 : decode cX3_go 186 = .ok (.aload_n 0, 1) := by decide +kernel
theorem dX3_go_187 : decode cX3_go 187 = .ok (.dup, 1) := by decide +kernel
theorem dX3_go_188 : decode cX3_go 188 = .ok (.getfield 33, 3) := by decide +kernel
theorem dX3_go_191 : decode cX3_go 191 = .ok (.iconst 1, 1) := by decide +kernel
theorem dX3_go_192 : decode cX3_go 192 = .ok (.iadd, 1) := by decide +kernel
theorem dX3_go_193 : decode cX3_go 193 = .ok (.putfield 33, 3) := by decide +kernel
theorem dX3_go_196 : decode cX3_go 196 = .ok (.aload_n 0, 1) := by decide +kernel
theorem dX3_go_197 : decode cX3_go 197 = .ok (.getfield 17, 3) := by decide +kernel
theorem dX3_go_200 : decode cX3_go 200 = .ok (.iconst 3, 1) := by decide +kernel
theorem dX3_go_201 : decode cX3_go 201 = .ok (.if_icmp .gt 43, 3) := by decide +kernel
theorem dX3_go_204 : decode cX3_go 204 = .ok (.iconst 1, 1) := by decide +kernel
theorem dX3_go_205 : decode cX3_go 205 = .ok (.ireturn, 1) := by decide +kernel
theorem dX3_go_206 : decode cX3_go 206 = .ok (.aload_n 0, 1) := by decide +kernel
theorem dX3_go_207 : decode cX3_go 207 = .ok (.getfield 10, 3) := by decide +kernel
theorem dX3_go_210 : decode cX3_go 210 = .ok (.iload_n 3, 1) := by decide +kernel
theorem dX3_go_211 : decode cX3_go 211 = .ok (.invokestatic 45, 3) := by decide +kernel
theorem dX3_go_214 : decode cX3_go 214 = .ok (.ifCond .eq 11, 3) := by decide +kernel
theorem dX3_go_217 : decode cX3_go 217 = .ok (.aload_n 0, 1) := by decide +kernel
theorem dX3_go_218 : decode cX3_go 218 = .ok (.iload_n 3, 1) := by decide +kernel
theorem dX3_go_219 : decode cX3_go 219 = .ok (.putfield 14, 3) := by decide +kernel
theorem dX3_go_222 : decode cX3_go 222 = .ok (.goto 22, 3) := by decide +kernel
theorem dX3_go_225 : decode cX3_go 225 = .ok (.aload_n 0, 1) := by decide +kernel
theorem dX3_go_226 : decode cX3_go 226 = .ok (.aload_n 0, 1) := by decide +kernel
theorem dX3_go_227 : decode cX3_go 227 = .ok (.getfield 23, 3) := by decide +kernel
theorem dX3_go_230 : decode cX3_go 230 = .ok (.ineg, 1) := by decide +kernel
theorem dX3_go_231 : decode cX3_go 231 = .ok (.putfield 23, 3) := by decide +kernel
theorem dX3_go_234 : decode cX3_go 234 = .ok (.aload_n 0, 1) := by decide +kernel
theorem dX3_go_235 : decode cX3_go 235 = .ok (.dup, 1) := by decide +kernel
theorem dX3_go_236 : decode cX3_go 236 = .ok (.getfield 39, 3) := by decide +kernel
theorem dX3_go_239 : decode cX3_go 239 = .ok (.iconst 1, 1) := by decide +kernel
theorem dX3_go_240 : decode cX3_go 240 = .ok (.iadd, 1) := by decide +kernel
theorem dX3_go_241 : decode cX3_go 241 = .ok (.putfield 39, 3) := by decide +kernel
theorem dX3_go_244 : decode cX3_go 244 = .ok (.iinc 2 1, 3) := by decide +kernel
theorem dX3_go_247 : decode cX3_go 247 = .ok (.goto (-121), 3) := by decide +kernel
theorem dX3_go_250 : decode cX3_go 250 = .ok (.aload_n 0, 1) := by decide +kernel
theorem dX3_go_251 : decode cX3_go 251 = .ok (.dup, 1) := by decide +kernel
theorem dX3_go_252 : decode cX3_go 252 = .ok (.getfield 17, 3) := by decide +kernel
theorem dX3_go_255 : decode cX3_go 255 = .ok (.aload_n 0, 1) := by decide +kernel
theorem dX3_go_256 : decode cX3_go 256 = .ok (.getfield 26, 3) := by decide +kernel
theorem dX3_go_259 : decode cX3_go 259 = .ok (.iadd, 1) := by decide +kernel
theorem dX3_go_260 : decode cX3_go 260 = .ok (.putfield 17, 3) := by decide +kernel
theorem dX3_go_263 : decode cX3_go 263 = .ok (.aload_n 0, 1) := by decide +kernel
theorem dX3_go_264 : decode cX3_go 264 = .ok (.dup, 1) := by decide +kernel
theorem dX3_go_265 : decode cX3_go 265 = .ok (.getfield 26, 3) := by decide +kernel
theorem dX3_go_268 : decode cX3_go 268 = .ok (.iconst 1, 1) := by decide +kernel
theorem dX3_go_269 : decode cX3_go 269 = .ok (.isub, 1) := by decide +kernel
theorem dX3_go_270 : decode cX3_go 270 = .ok (.putfield 26, 3) := by decide +kernel
theorem dX3_go_273 : decode cX3_go 273 = .ok (.aload_n 0, 1) := by decide +kernel
theorem dX3_go_274 : decode cX3_go 274 = .ok (.getfield 17, 3) := by decide +kernel
theorem dX3_go_277 : decode cX3_go 277 = .ok (.iconst 1, 1) := by decide +kernel
theorem dX3_go_278 : decode cX3_go 278 = .ok (.if_icmp .ge 56, 3) := by decide +kernel
theorem dX3_go_281 : decode cX3_go 281 = .ok (.aload_n 0, 1) := by decide +kernel
theorem dX3_go_282 : decode cX3_go 282 = .ok (.getfield 26, 3) := by decide +kernel
theorem dX3_go_285 : decode cX3_go 285 = .ok (.ifCond .ge 49, 3) := by decide +kernel
theorem dX3_go_288 : decode cX3_go 288 = .ok (.aload_n 0, 1) := by decide +kernel
theorem dX3_go_289 : decode cX3_go 289 = .ok (.iconst 0, 1) := by decide +kernel
theorem dX3_go_290 : decode cX3_go 290 = .ok (.putfield 17, 3) := by decide +kernel
theorem dX3_go_293 : decode cX3_go 293 = .ok (.aload_n 0, 1) := by decide +kernel
theorem dX3_go_294 : decode cX3_go 294 = .ok (.iconst 0, 1) := by decide +kernel
theorem dX3_go_295 : decode cX3_go 295 = .ok (.aload_n 0, 1) := by decide +kernel
theorem dX3_go_296 : decode cX3_go 296 = .ok (.getfield 26, 3) := by decide +kernel
theorem dX3_go_299 : decode cX3_go 299 = .ok (.isub, 1) := by decide +kernel
theorem dX3_go_300 : decode cX3_go 300 = .ok (.iconst 2, 1) := by decide +kernel
theorem dX3_go_301 : decode cX3_go 301 = .ok (.idiv, 1) := by decide +kernel
theorem dX3_go_302 : decode cX3_go 302 = .ok (.putfield 26, 3) := by decide +kernel
theorem dX3_go_305 : decode cX3_go 305 = .ok (.aload_n 0, 1) := by decide +kernel
theorem dX3_go_306 : decode cX3_go 306 = .ok (.dup, 1) := by decide +kernel
theorem dX3_go_307 : decode cX3_go 307 = .ok (.getfield 36, 3) := by decide +kernel
theorem dX3_go_310 : decode cX3_go 310 = .ok (.iconst 1, 1) := by decide +kernel
theorem dX3_go_311 : decode cX3_go 311 = .ok (.iadd, 1) := by decide +kernel
theorem dX3_go_312 : decode cX3_go 312 = .ok (.putfield 36, 3) := by decide +kernel
theorem dX3_go_315 : decode cX3_go 315 = .ok (.aload_n 0, 1) := by decide +kernel
theorem dX3_go_316 : decode cX3_go 316 = .ok (.getfield 33, 3) := by decide +kernel
theorem dX3_go_319 : decode cX3_go 319 = .ok (.ifCond .ne 5, 3) := by decide +kernel
theorem dX3_go_322 : decode cX3_go 322 = .ok (.iconst 1, 1) := by decide +kernel
theorem dX3_go_323 : decode cX3_go 323 = .ok (.ireturn, 1) := by decide +kernel
theorem dX3_go_324 : decode cX3_go 324 = .ok (.aload_n 0, 1) := by decide +kernel
theorem dX3_go_325 : decode cX3_go 325 = .ok (.getfield 36, 3) := by decide +kernel
theorem dX3_go_328 : decode cX3_go 328 = .ok (.iconst 1, 1) := by decide +kernel
theorem dX3_go_329 : decode cX3_go 329 = .ok (.if_icmp .le 5, 3) := by decide +kernel
theorem dX3_go_332 : decode cX3_go 332 = .ok (.iconst 3, 1) := by decide +kernel
theorem dX3_go_333 : decode cX3_go 333 = .ok (.ireturn, 1) := by decide +kernel
theorem dX3_go_334 : decode cX3_go 334 = .ok (.iconst 0, 1) := by decide +kernel
theorem dX3_go_335 : decode cX3_go 335 = .ok (.ireturn, 1) := by decide +kernel
theorem dX3_go__0 : decode cX3_go_ 0 = .ok (.iconst 0, 1) := by decide +kernel
theorem dX3_go__1 : decode cX3_go_ 1 = .ok (.istore_n 2, 1) := by decide +kernel
theorem dX3_go__2 : decode cX3_go_ 2 = .ok (.iload_n 2, 1) := by decide +kernel
theorem dX3_go__3 : decode cX3_go_ 3 = .ok (.iload_n 1, 1) := by decide +kernel
theorem dX3_go__4 : decode cX3_go_ 4 = .ok (.if_icmp .ge 20, 3) := by decide +kernel
theorem dX3_go__7 : decode cX3_go_ 7 = .ok (.aload_n 0, 1) := by decide +kernel
theorem dX3_go__8 : decode cX3_go_ 8 = .ok (.invokevirtual 49, 3) := by decide +kernel
theorem dX3_go__11 : decode cX3_go_ 11 = .ok (.istore_n 3, 1) := by decide +kernel
theorem dX3_go__12 : decode cX3_go_ 12 = .ok (.iload_n 3, 1) := by decide +kernel
theorem dX3_go__13 : decode cX3_go_ 13 = .ok (.ifCond .le 5, 3) := by decide +kernel
theorem dX3_go__16 : decode cX3_go_ 16 = .ok (.iload_n 3, 1) := by decide +kernel
theorem dX3_go__17 : decode cX3_go_ 17 = .ok (.ireturn, 1) := by decide +kernel
theorem dX3_go__18 : decode cX3_go_ 18 = .ok (.iinc 2 1, 3) := by decide +kernel
theorem dX3_go__21 : decode cX3_go_ 21 = .ok (.goto (-19), 3) := by decide +kernel
theorem dX3_go__24 : decode cX3_go_ 24 = .ok (.iconst 0, 1) := by decide +kernel
theorem dX3_go__25 : decode cX3_go_ 25 = .ok (.ireturn, 1) := by decide +kernel
theorem dX3_told_0 : decode cX3_told 0 = .ok (.bipush 9, 2) := by decide +kernel
theorem dX3_told_2 : decode cX3_told 2 = .ok (.newarray .int, 2) := by decide +kernel
theorem dX3_told_4 : decode cX3_told 4 = .ok (.dup, 1) := by decide +kernel
theorem dX3_told_5 : decode cX3_told 5 = .ok (.iconst 0, 1) := by decide +kernel
theorem dX3_told_6 : decode cX3_told 6 = .ok (.aload_n 0, 1) := by decide +kernel
theorem dX3_told_7 : decode cX3_told 7 = .ok (.getfield 10, 3) := by decide +kernel
theorem dX3_told_10 : decode cX3_told 10 = .ok (.iastore, 1) := by decide +kernel
theorem dX3_told_11 : decode cX3_told 11 = .ok (.dup, 1) := by decide +kernel
theorem dX3_told_12 : decode cX3_told 12 = .ok (.iconst 1, 1) := by decide +kernel
theorem dX3_told_13 : decode cX3_told 13 = .ok (.aload_n 0, 1) := by decide +kernel
theorem dX3_told_14 : decode cX3_told 14 = .ok (.getfield 14, 3) := by decide +kernel
theorem dX3_told_17 : decode cX3_told 17 = .ok (.iastore, 1) := by decide +kernel
theorem dX3_told_18 : decode cX3_told 18 = .ok (.dup, 1) := by decide +kernel
theorem dX3_told_19 : decode cX3_told 19 = .ok (.iconst 2, 1) := by decide +kernel
theorem dX3_told_20 : decode cX3_told 20 = .ok (.aload_n 0, 1) := by decide +kernel
theorem dX3_told_21 : decode cX3_told 21 = .ok (.getfield 17, 3) := by decide +kernel
theorem dX3_told_24 : decode cX3_told 24 = .ok (.iastore, 1) := by decide +kernel
theorem dX3_told_25 : decode cX3_told 25 = .ok (.dup, 1) := by decide +kernel
theorem dX3_told_26 : decode cX3_told 26 = .ok (.iconst 3, 1) := by decide +kernel
theorem dX3_told_27 : decode cX3_told 27 = .ok (.aload_n 0, 1) := by decide +kernel
theorem dX3_told_28 : decode cX3_told 28 = .ok (.getfield 20, 3) := by decide +kernel
theorem dX3_told_31 : decode cX3_told 31 = .ok (.iastore, 1) := by decide +kernel
theorem dX3_told_32 : decode cX3_told 32 = .ok (.dup, 1) := by decide +kernel
theorem dX3_told_33 : decode cX3_told 33 = .ok (.iconst 4, 1) := by decide +kernel
theorem dX3_told_34 : decode cX3_told 34 = .ok (.aload_n 0, 1) := by decide +kernel
theorem dX3_told_35 : decode cX3_told 35 = .ok (.getfield 23, 3) := by decide +kernel
theorem dX3_told_38 : decode cX3_told 38 = .ok (.iastore, 1) := by decide +kernel
theorem dX3_told_39 : decode cX3_told 39 = .ok (.dup, 1) := by decide +kernel
theorem dX3_told_40 : decode cX3_told 40 = .ok (.iconst 5, 1) := by decide +kernel
theorem dX3_told_41 : decode cX3_told 41 = .ok (.aload_n 0, 1) := by decide +kernel
theorem dX3_told_42 : decode cX3_told 42 = .ok (.getfield 26, 3) := by decide +kernel
theorem dX3_told_45 : decode cX3_told 45 = .ok (.iastore, 1) := by decide +kernel
theorem dX3_told_46 : decode cX3_told 46 = .ok (.dup, 1) := by decide +kernel
theorem dX3_told_47 : decode cX3_told 47 = .ok (.bipush 6, 2) := by decide +kernel
theorem dX3_told_49 : decode cX3_told 49 = .ok (.aload_n 0, 1) := by decide +kernel
theorem dX3_told_50 : decode cX3_told 50 = .ok (.getfield 33, 3) := by decide +kernel
theorem dX3_told_53 : decode cX3_told 53 = .ok (.iastore, 1) := by decide +kernel
theorem dX3_told_54 : decode cX3_told 54 = .ok (.dup, 1) := by decide +kernel
theorem dX3_told_55 : decode cX3_told 55 = .ok (.bipush 7, 2) := by decide +kernel
theorem dX3_told_57 : decode cX3_told 57 = .ok (.aload_n 0, 1) := by decide +kernel
theorem dX3_told_58 : decode cX3_told 58 = .ok (.getfield 36, 3) := by decide +kernel
theorem dX3_told_61 : decode cX3_told 61 = .ok (.iastore, 1) := by decide +kernel
theorem dX3_told_62 : decode cX3_told 62 = .ok (.dup, 1) := by decide +kernel
theorem dX3_told_63 : decode cX3_told 63 = .ok (.bipush 8, 2) := by decide +kernel
theorem dX3_told_65 : decode cX3_told 65 = .ok (.aload_n 0, 1) := by decide +kernel
theorem dX3_told_66 : decode cX3_told 66 = .ok (.getfield 39, 3) := by decide +kernel
theorem dX3_told_69 : decode cX3_told 69 = .ok (.iastore, 1) := by decide +kernel
theorem dX3_told_70 : decode cX3_told 70 = .ok (.astore_n 2, 1) := by decide +kernel
theorem dX3_told_71 : decode cX3_told 71 = .ok (.aload_n 2, 1) := by decide +kernel
theorem dX3_told_72 : decode cX3_told 72 = .ok (.iload_n 1, 1) := by decide +kernel
theorem dX3_told_73 : decode cX3_told 73 = .ok (.iaload, 1) := by decide +kernel
theorem dX3_told_74 : decode cX3_told 74 = .ok (.ireturn, 1) := by decide +kernel
theorem dX4_init_0 : decode cX4_init 0 = .ok (.aload_n 0, 1) := by decide +kernel
theorem dX4_init_1 : decode cX4_init 1 = .ok (.invokespecial 1, 3) := by decide +kernel
theorem dX4_init_4 : decode cX4_init 4 = .ok (.aload_n 0, 1) := by decide +kernel
theorem dX4_init_5 : decode cX4_init 5 = .ok (.iconst (-1), 1) := by decide +kernel
theorem dX4_init_6 : decode cX4_init 6 = .ok (.putfield 7, 3) := by decide +kernel
theorem dX4_init_9 : decode cX4_init 9 = .ok (.aload_n 0, 1) := by decide +kernel
theorem dX4_init_10 : decode cX4_init 10 = .ok (.iconst 2, 1) := by decide +kernel
theorem dX4_init_11 : decode cX4_init 11 = .ok (.iconst 4, 1) := by decide +kernel
theorem dX4_init_12 : decode cX4_init 12 = .ok (.multianewarray 13 2, 4) := by decide +kernel
theorem dX4_init_16 : decode cX4_init 16 = .ok (.putfield 15, 3) := by decide +kernel
theorem dX4_init_19 : decode cX4_init 19 = .ok (.aload_n 0, 1) := by decide +kernel
theorem dX4_init_20 : decode cX4_init 20 = .ok (.bipush 12, 2) := by decide +kernel
theorem dX4_init_22 : decode cX4_init 22 = .ok (.putfield 18, 3) := by decide +kernel
theorem dX4_init_25 : decode cX4_init 25 = .ok (.return_, 1) := by decide +kernel
theorem dX4_winner_0 : decode cX4_winner 0 = .ok (.aload_n 0, 1) := by decide +kernel
theorem dX4_winner_1 : decode cX4_winner 1 = .ok (.getfield 15, 3) := by decide +kernel
theorem dX4_winner_4 : decode cX4_winner 4 = .ok (.iconst 0, 1) := by decide +kernel
theorem dX4_winner_5 : decode cX4_winner 5 = .ok (.aaload, 1) := by decide +kernel
theorem dX4_winner_6 : decode cX4_winner 6 = .ok (.iconst 1, 1) := by decide +kernel
theorem dX4_winner_7 : decode cX4_winner 7 = .ok (.iaload, 1) := by decide +kernel
theorem dX4_winner_8 : decode cX4_winner 8 = .ok (.iconst 2, 1) := by decide +kernel
theorem dX4_winner_9 : decode cX4_winner 9 = .ok (.if_icmp .le 7, 3) := by decide +kernel
theorem dX4_winner_12 : decode cX4_winner 12 = .ok (.iconst 0, 1) := by decide +kernel
theorem dX4_winner_13 : decode cX4_winner 13 = .ok (.goto 20, 3) := by decide +kernel
theorem dX4_winner_16 : decode cX4_winner 16 = .ok (.aload_n 0, 1) := by decide +kernel
theorem dX4_winner_17 : decode cX4_winner 17 = .ok (.getfield 15, 3) := by decide +kernel
theorem dX4_winner_20 : decode cX4_winner 20 = .ok (.iconst 1, 1) := by decide +kernel
theorem dX4_winner_21 : decode cX4_winner 21 = .ok (.aaload, 1) := by decide +kernel
theorem dX4_winner_22 : decode cX4_winner 22 = .ok (.iconst 1, 1) := by decide +kernel
theorem dX4_winner_23 : decode cX4_winner 23 = .ok (.iaload, 1) := by decide +kernel
theorem dX4_winner_24 : decode cX4_winner 24 = .ok (.iconst 2, 1) := by decide +kernel
theorem dX4_winner_25 : decode cX4_winner 25 = .ok (.if_icmp .le 7, 3) := by decide +kernel
theorem dX4_winner_28 : decode cX4_winner 28 = .ok (.iconst 1, 1) := by decide +kernel
theorem dX4_winner_29 : decode cX4_winner 29 = .ok (.goto 4, 3) := by decide +kernel
theorem dX4_winner_32 : decode cX4_winner 32 = .ok (.iconst (-1), 1) := by decide +kernel
theorem dX4_winner_33 : decode cX4_winner 33 = .ok (.ireturn, 1) := by decide +kernel
theorem dX4_canSet_0 : decode cX4_canSet 0 = .ok (.aload_n 0, 1) := by decide +kernel
theorem dX4_canSet_1 : decode cX4_canSet 1 = .ok (.getfield 21, 3) := by decide +kernel
theorem dX4_canSet_4 : decode cX4_canSet 4 = .ok (.ifnonnull 59, 3) := by decide +kernel
theorem dX4_canSet_7 : decode cX4_canSet 7 = .ok (.aload_n 0, 1) := by decide +kernel
theorem dX4_canSet_8 : decode cX4_canSet 8 = .ok (.getfield 25, 3) := by decide +kernel
theorem dX4_canSet_11 : decode cX4_canSet 11 = .ok (.ifCond .ne 52, 3) := by decide +kernel
theorem dX4_canSet_14 : decode cX4_canSet 14 = .ok (.aload_n 0, 1) := by decide +kernel
theorem dX4_canSet_15 : decode cX4_canSet 15 = .ok (.getfield 15, 3) := by decide +kernel
theorem dX4_canSet_18 : decode cX4_canSet 18 = .ok (.iconst 0, 1) := by decide +kernel
theorem dX4_canSet_19 : decode cX4_canSet 19 = .ok (.aaload, 1) := by decide +kernel
theorem dX4_canSet_20 : decode cX4_canSet 20 = .ok (.iconst 0, 1) := by decide +kernel
theorem dX4_canSet_21 : decode cX4_canSet 21 = .ok (.iaload, 1) := by decide +kernel
theorem dX4_canSet_22 : decode cX4_canSet 22 = .ok (.aload_n 0, 1) := by decide +kernel
theorem dX4_canSet_23 : decode cX4_canSet 23 = .ok (.getfield 15, 3) := by decide +kernel
theorem dX4_canSet_26 : decode cX4_canSet 26 = .ok (.iconst 1, 1) := by decide +kernel
theorem dX4_canSet_27 : decode cX4_canSet 27 = .ok (.aaload, 1) := by decide +kernel
theorem dX4_canSet_28 : decode cX4_canSet 28 = .ok (.iconst 0, 1) := by decide +kernel
theorem dX4_canSet_29 : decode cX4_canSet 29 = .ok (.iaload, 1) := by decide +kernel
theorem dX4_canSet_30 : decode cX4_canSet 30 = .ok (.if_icmp .ne 33, 3) := by decide +kernel
theorem dX4_canSet_33 : decode cX4_canSet 33 = .ok (.aload_n 0, 1) := by decide +kernel
theorem dX4_canSet_34 : decode cX4_canSet 34 = .ok (.getfield 15, 3) := by decide +kernel
theorem dX4_canSet_37 : decode cX4_canSet 37 = .ok (.iconst 0, 1) := by decide +kernel
theorem dX4_canSet_38 : decode cX4_canSet 38 = .ok (.aaload, 1) := by decide +kernel
theorem dX4_canSet_39 : decode cX4_canSet 39 = .ok (.iconst 0, 1) := by decide +kernel
theorem dX4_canSet_40 : decode cX4_canSet 40 = .ok (.iaload, 1) := by decide +kernel
theorem dX4_canSet_41 : decode cX4_canSet 41 = .ok (.bipush 10, 2) := by decide +kernel
theorem dX4_canSet_43 : decode cX4_canSet 43 = .ok (.if_icmp .eq 16, 3) := by decide +kernel
theorem dX4_canSet_46 : decode cX4_canSet 46 = .ok (.aload_n 0, 1) := by decide +kernel
theorem dX4_canSet_47 : decode cX4_canSet 47 = .ok (.getfield 15, 3) := by decide +kernel
theorem dX4_canSet_50 : decode cX4_canSet 50 = .ok (.iconst 0, 1) := by decide +kernel
theorem dX4_canSet_51 : decode cX4_canSet 51 = .ok (.aaload, 1) := by decide +kernel
theorem dX4_canSet_52 : decode cX4_canSet 52 = .ok (.iconst 0, 1) := by decide +kernel
theorem dX4_canSet_53 : decode cX4_canSet 53 = .ok (.iaload, 1) := by decide +kernel
theorem dX4_canSet_54 : decode cX4_canSet 54 = .ok (.bipush 11, 2) := by decide +kernel
theorem dX4_canSet_56 : decode cX4_canSet 56 = .ok (.if_icmp .ne 7, 3) := by decide +kernel
theorem dX4_canSet_59 : decode cX4_canSet 59 = .ok (.iconst 1, 1) := by decide +kernel
theorem dX4_canSet_60 : decode cX4_canSet 60 = .ok (.goto 4, 3) := by decide +kernel
theorem dX4_canSet_63 : decode cX4_canSet 63 = .ok (.iconst 0, 1) := by decide +kernel
theorem dX4_canSet_64 : decode cX4_canSet 64 = .ok (.ireturn, 1) := by decide +kernel
theorem dX4_serve_0 : decode cX4_serve 0 = .ok (.aload_n 0, 1) := by decide +kernel
theorem dX4_serve_1 : decode cX4_serve 1 = .ok (.iconst 0, 1) := by decide +kernel
theorem dX4_serve_2 : decode cX4_serve 2 = .ok (.putfield 29, 3) := by decide +kernel
theorem dX4_serve_5 : decode cX4_serve 5 = .ok (.aload_n 0, 1) := by decide +kernel
theorem dX4_serve_6 : decode cX4_serve 6 = .ok (.bipush 6, 2) := by decide +kernel
theorem dX4_serve_8 : decode cX4_serve 8 = .ok (.bipush 14, 2) := by decide +kernel
theorem dX4_serve_10 : decode cX4_serve 10 = .ok (.iconst 3, 1) := by decide +kernel
theorem dX4_serve_11 : decode cX4_serve 11 = .ok (.iload_n 1, 1) := by decide +kernel
theorem dX4_serve_12 : decode cX4_serve 12 = .ok (.iload_n 2, 1) := by decide +kernel
theorem dX4_serve_13 : decode cX4_serve 13 = .ok (.iload_n 3, 1) := by decide +kernel
theorem dX4_serve_14 : decode cX4_serve 14 = .ok (.invokestatic 32, 3) := by decide +kernel
theorem dX4_serve_17 : decode cX4_serve 17 = .ok (.putfield 21, 3) := by decide +kernel
theorem dX4_serve_20 : decode cX4_serve 20 = .ok (.aload_n 0, 1) := by decide +kernel
theorem dX4_serve_21 : decode cX4_serve 21 = .ok (.dup, 1) := by decide +kernel
theorem dX4_serve_22 : decode cX4_serve 22 = .ok (.getfield 29, 3) := by decide +kernel
theorem dX4_serve_25 : decode cX4_serve 25 = .ok (.iconst 1, 1) := by decide +kernel
theorem dX4_serve_26 : decode cX4_serve 26 = .ok (.iadd, 1) := by decide +kernel
theorem dX4_serve_27 : decode cX4_serve 27 = .ok (.putfield 29, 3) := by decide +kernel
theorem dX4_serve_30 : decode cX4_serve 30 = .ok (.aload_n 0, 1) := by decide +kernel
theorem dX4_serve_31 : decode cX4_serve 31 = .ok (.getfield 15, 3) := by decide +kernel
theorem dX4_serve_34 : decode cX4_serve 34 = .ok (.aload_n 0, 1) := by decide +kernel
theorem dX4_serve_35 : decode cX4_serve 35 = .ok (.getfield 38, 3) := by decide +kernel
theorem dX4_serve_38 : decode cX4_serve 38 = .ok (.aaload, 1) := by decide +kernel
theorem dX4_serve_39 : decode cX4_serve 39 = .ok (.iconst 3, 1) := by decide +kernel
theorem dX4_serve_40 : decode cX4_serve 40 = .ok (.dup2, 1) := by decide +kernel
theorem dX4_serve_41 : decode cX4_serve 41 = .ok (.iaload, 1) := by decide +kernel
theorem dX4_serve_42 : decode cX4_serve 42 = .ok (.iconst 1, 1) := by decide +kernel
theorem dX4_serve_43 : decode cX4_serve 43 = .ok (.iadd, 1) := by decide +kernel
theorem dX4_serve_44 : decode cX4_serve 44 = .ok (.iastore, 1) := by decide +kernel
theorem dX4_serve_45 : decode cX4_serve 45 = .ok (.aload_n 0, 1) := by decide +kernel
theorem dX4_serve_46 : decode cX4_serve 46 = .ok (.iconst 1, 1) := by decide +kernel
theorem dX4_serve_47 : decode cX4_serve 47 = .ok (.aload_n 0, 1) := by decide +kernel
theorem dX4_serve_48 : decode cX4_serve 48 = .ok (.getfield 38, 3) := by decide +kernel
theorem dX4_serve_51 : decode cX4_serve 51 = .ok (.isub, 1) := by decide +kernel
theorem dX4_serve_52 : decode cX4_serve 52 = .ok (.putfield 7, 3) := by decide +kernel
theorem dX4_serve_55 : decode cX4_serve 55 = .ok (.aload_n 0, 1) := by decide +kernel
theorem dX4_serve_56 : decode cX4_serve 56 = .ok (.getfield 38, 3) := by decide +kernel
theorem dX4_serve_59 : decode cX4_serve 59 = .ok (.ireturn, 1) := by decide +kernel
theorem dX4_over_0 : decode cX4_over 0 = .ok (.aload_n 0, 1) := by decide +kernel
theorem dX4_over_1 : decode cX4_over 1 = .ok (.aconst_null, 1) := by decide +kernel
theorem dX4_over_2 : decode cX4_over 2 = .ok (.putfield 21, 3) := by decide +kernel
theorem dX4_over_5 : decode cX4_over 5 = .ok (.aload_n 0, 1) := by decide +kernel
theorem dX4_over_6 : decode cX4_over 6 = .ok (.iconst (-1), 1) := by decide +kernel
theorem dX4_over_7 : decode cX4_over 7 = .ok (.putfield 7, 3) := by decide +kernel
theorem dX4_over_10 : decode cX4_over 10 = .ok (.aload_n 0, 1) := by decide +kernel
theorem dX4_over_11 : decode cX4_over 11 = .ok (.getfield 15, 3) := by decide +kernel
theorem dX4_over_14 : decode cX4_over 14 = .ok (.iload_n 1, 1) := by decide +kernel
theorem dX4_over_15 : decode cX4_over 15 = .ok (.aaload, 1) := by decide +kernel
theorem dX4_over_16 : decode cX4_over 16 = .ok (.astore_n 2, 1) := by decide +kernel
theorem dX4_over_17 : decode cX4_over 17 = .ok (.aload_n 2, 1) := by decide +kernel
theorem dX4_over_18 : decode cX4_over 18 = .ok (.iconst 2, 1) := by decide +kernel
theorem dX4_over_19 : decode cX4_over 19 = .ok (.dup2, 1) := by decide +kernel
theorem dX4_over_20 : decode cX4_over 20 = .ok (.iaload, 1) := by decide +kernel
theorem dX4_over_21 : decode cX4_over 21 = .ok (.iconst 1, 1) := by decide +kernel
theorem dX4_over_22 : decode cX4_over 22 = .ok (.iadd, 1) := by decide +kernel
theorem dX4_over_23 : decode cX4_over 23 = .ok (.iastore, 1) := by decide +kernel
theorem dX4_over_24 : decode cX4_over 24 = .ok (.aload_n 0, 1) := by decide +kernel
theorem dX4_over_25 : decode cX4_over 25 = .ok (.dup, 1) := by decide +kernel
theorem dX4_over_26 : decode cX4_over 26 = .ok (.getfield 41, 3) := by decide +kernel
theorem dX4_over_29 : decode cX4_over 29 = .ok (.iconst 1, 1) := by decide +kernel
theorem dX4_over_30 : decode cX4_over 30 = .ok (.iadd, 1) := by decide +kernel
theorem dX4_over_31 : decode cX4_over 31 = .ok (.putfield 41, 3) := by decide +kernel
theorem dX4_over_34 : decode cX4_over 34 = .ok (.aload_n 0, 1) := by decide +kernel
theorem dX4_over_35 : decode cX4_over 35 = .ok (.dup, 1) := by decide +kernel
theorem dX4_over_36 : decode cX4_over 36 = .ok (.getfield 44, 3) := by decide +kernel
theorem dX4_over_39 : decode cX4_over 39 = .ok (.aload_n 0, 1) := by decide +kernel
theorem dX4_over_40 : decode cX4_over 40 = .ok (.getfield 29, 3) := by decide +kernel
theorem dX4_over_43 : decode cX4_over 43 = .ok (.iadd, 1) := by decide +kernel
theorem dX4_over_44 : decode cX4_over 44 = .ok (.putfield 44, 3) := by decide +kernel
theorem dX4_over_47 : decode cX4_over 47 = .ok (.aload_n 0, 1) := by decide +kernel
theorem dX4_over_48 : decode cX4_over 48 = .ok (.getfield 38, 3) := by decide +kernel
theorem dX4_over_51 : decode cX4_over 51 = .ok (.iload_n 1, 1) := by decide +kernel
theorem dX4_over_52 : decode cX4_over 52 = .ok (.if_icmp .ne 10, 3) := by decide +kernel
theorem dX4_over_55 : decode cX4_over 55 = .ok (.aload_n 2, 1) := by decide +kernel
theorem dX4_over_56 : decode cX4_over 56 = .ok (.iconst 0, 1) := by decide +kernel
theorem dX4_over_57 : decode cX4_over 57 = .ok (.dup2, 1) := by decide +kernel
theorem dX4_over_58 : decode cX4_over 58 = .ok (.iaload, 1) := by decide +kernel
theorem dX4_over_59 : decode cX4_over 59 = .ok (.iconst 1, 1) := by decide +kernel
theorem dX4_over_60 : decode cX4_over 60 = .ok (.iadd, 1) := by decide +kernel
theorem dX4_over_61 : decode cX4_over 61 = .ok (.iastore, 1) := by decide +kernel
theorem dX4_over_62 : decode cX4_over 62 = .ok (.aload_n 0, 1) := by decide +kernel
theorem dX4_over_63 : decode cX4_over 63 = .ok (.iload_n 1, 1) := by decide +kernel
theorem dX4_over_64 : decode cX4_over 64 = .ok (.putfield 38, 3) := by decide +kernel
theorem dX4_over_67 : decode cX4_over 67 = .ok (.aload_n 2, 1) := by decide +kernel
theorem dX4_over_68 : decode cX4_over 68 = .ok (.iconst 0, 1) := by decide +kernel
theorem dX4_over_69 : decode cX4_over 69 = .ok (.iaload, 1) := by decide +kernel
theorem dX4_over_70 : decode cX4_over 70 = .ok (.aload_n 0, 1) := by decide +kernel
theorem dX4_over_71 : decode cX4_over 71 = .ok (.getfield 18, 3) := by decide +kernel
theorem dX4_over_74 : decode cX4_over 74 = .ok (.if_icmp .lt 49, 3) := by decide +kernel
theorem dX4_over_77 : decode cX4_over 77 = .ok (.aload_n 2, 1) := by decide +kernel
theorem dX4_over_78 : decode cX4_over 78 = .ok (.iconst 1, 1) := by decide +kernel
theorem dX4_over_79 : decode cX4_over 79 = .ok (.dup2, 1) := by decide +kernel
theorem dX4_over_80 : decode cX4_over 80 = .ok (.iaload, 1) := by decide +kernel
theorem dX4_over_81 : decode cX4_over 81 = .ok (.iconst 1, 1) := by decide +kernel
theorem dX4_over_82 : decode cX4_over 82 = .ok (.iadd, 1) := by decide +kernel
theorem dX4_over_83 : decode cX4_over 83 = .ok (.iastore, 1) := by decide +kernel
theorem dX4_over_84 : decode cX4_over 84 = .ok (.aload_n 0, 1) := by decide +kernel
theorem dX4_over_85 : decode cX4_over 85 = .ok (.dup, 1) := by decide +kernel
theorem dX4_over_86 : decode cX4_over 86 = .ok (.getfield 47, 3) := by decide +kernel
theorem dX4_over_89 : decode cX4_over 89 = .ok (.iconst 1, 1) := by decide +kernel
theorem dX4_over_90 : decode cX4_over 90 = .ok (.iadd, 1) := by decide +kernel
theorem dX4_over_91 : decode cX4_over 91 = .ok (.putfield 47, 3) := by decide +kernel
theorem dX4_over_94 : decode cX4_over 94 = .ok (.aload_n 0, 1) := by decide +kernel
theorem dX4_over_95 : decode cX4_over 95 = .ok (.getfield 15, 3) := by decide +kernel
theorem dX4_over_98 : decode cX4_over 98 = .ok (.iconst 0, 1) := by decide +kernel
theorem dX4_over_99 : decode cX4_over 99 = .ok (.aaload, 1) := by decide +kernel
theorem dX4_over_100 : decode cX4_over 100 = .ok (.iconst 0, 1) := by decide +kernel
theorem dX4_over_101 : decode cX4_over 101 = .ok (.iconst 0, 1) := by decide +kernel
theorem dX4_over_102 : decode cX4_over 102 = .ok (.iastore, 1) := by decide +kernel
theorem dX4_over_103 : decode cX4_over 103 = .ok (.aload_n 0, 1) := by decide +kernel
theorem dX4_over_104 : decode cX4_over 104 = .ok (.getfield 15, 3) := by decide +kernel
theorem dX4_over_107 : decode cX4_over 107 = .ok (.iconst 1, 1) := by decide +kernel
theorem dX4_over_108 : decode cX4_over 108 = .ok (.aaload, 1) := by decide +kernel
theorem dX4_over_109 : decode cX4_over 109 = .ok (.iconst 0, 1) := by decide +kernel
theorem dX4_over_110 : decode cX4_over 110 = .ok (.iconst 0, 1) := by decide +kernel
theorem dX4_over_111 : decode cX4_over 111 = .ok (.iastore, 1) := by decide +kernel
theorem dX4_over_112 : decode cX4_over 112 = .ok (.aload_n 0, 1) := by decide +kernel
theorem dX4_over_113 : decode cX4_over 113 = .ok (.bipush 12, 2) := by decide +kernel
theorem dX4_over_115 : decode cX4_over 115 = .ok (.putfield 18, 3) := by decide +kernel
theorem dX4_over_118 : decode cX4_over 118 = .ok (.aload_n 0, 1) := by decide +kernel
theorem dX4_over_119 : decode cX4_over 119 = .ok (.iconst 0, 1) := by decide +kernel
theorem dX4_over_120 : decode cX4_over 120 = .ok (.putfield 25, 3) := by decide +kernel
theorem dX4_over_123 : decode cX4_over 123 = .ok (.iconst 2, 1) := by decide +kernel
theorem dX4_over_124 : decode cX4_over 124 = .ok (.iload_n 1, 1) := by decide +kernel
theorem dX4_over_125 : decode cX4_over 125 = .ok (.iadd, 1) := by decide +kernel
theorem dX4_over_126 : decode cX4_over 126 = .ok (.ireturn, 1) := by decide +kernel
theorem dX4_strike_0 : decode cX4_strike 0 = .ok (.aload_n 0, 1) := by decide +kernel
theorem dX4_strike_1 : decode cX4_strike 1 = .ok (.getfield 21, 3) := by decide +kernel
theorem dX4_strike_4 : decode cX4_strike 4 = .ok (.invokevirtual 50, 3) := by decide +kernel
theorem dX4_strike_7 : decode cX4_strike 7 = .ok (.astore 5, 2) := by decide +kernel
theorem dX4_strike_9 : decode cX4_strike 9 = .ok (.aload 5, 2) := by decide +kernel
theorem dX4_strike_11 : decode cX4_strike 11 = .ok (.iload_n 1, 1) := by decide +kernel
theorem dX4_strike_12 : decode cX4_strike 12 = .ok (.invokevirtual 54, 3) := by decide +kernel
theorem dX4_strike_15 : decode cX4_strike 15 = .ok (.istore 6, 2) := by decide +kernel
theorem dX4_strike_17 : decode cX4_strike 17 = .ok (.iload 6, 2) := by decide +kernel
theorem dX4_strike_19 : decode cX4_strike 19 = .ok (.iconst 3, 1) := by decide +kernel
theorem dX4_strike_20 : decode cX4_strike 20 = .ok (.if_icmp .ne 14, 3) := by decide +kernel
theorem dX4_strike_23 : decode cX4_strike 23 = .ok (.aload_n 0, 1) := by decide +kernel
theorem dX4_strike_24 : decode cX4_strike 24 = .ok (.iconst 1, 1) := by decide +kernel
theorem dX4_strike_25 : decode cX4_strike 25 = .ok (.aload_n 0, 1) := by decide +kernel
theorem dX4_strike_26 : decode cX4_strike 26 = .ok (.getfield 7, 3) := by decide +kernel
theorem dX4_strike_29 : decode cX4_strike 29 = .ok (.isub, 1) := by decide +kernel
theorem dX4_strike_30 : decode cX4_strike 30 = .ok (.invokevirtual 58, 3) := by decide +kernel
theorem dX4_strike_33 : decode cX4_strike 33 = .ok (.ireturn, 1) := by decide +kernel
theorem dX4_strike_34 : decode cX4_strike 34 = .ok (.iload 6, 2) := by decide +kernel
theorem dX4_strike_36 : decode cX4_strike 36 = .ok (.ifCond .le 12, 3) := by decide +kernel
theorem dX4_strike_39 : decode cX4_strike 39 = .ok (.aload_n 0, 1) := by decide +kernel
theorem dX4_strike_40 : decode cX4_strike 40 = .ok (.aload_n 0, 1) := by decide +kernel
theorem dX4_strike_41 : decode cX4_strike 41 = .ok (.getfield 7, 3) := by decide +kernel
theorem dX4_strike_44 : decode cX4_strike 44 = .ok (.invokevirtual 58, 3) := by decide +kernel
theorem dX4_strike_47 : decode cX4_strike 47 = .ok (.ireturn, 1) := by decide +kernel
theorem dX4_strike_48 : decode cX4_strike 48 = .ok (.aload 5, 2) := by decide +kernel
theorem dX4_strike_50 : decode cX4_strike 50 = .ok (.getfield 61, 3) := by decide +kernel
theorem dX4_strike_53 : decode cX4_strike 53 = .ok (.ifCond .ne 10, 3) := by decide +kernel
theorem dX4_strike_56 : decode cX4_strike 56 = .ok (.aload_n 0, 1) := by decide +kernel
theorem dX4_strike_57 : decode cX4_strike 57 = .ok (.invokevirtual 64, 3) := by decide +kernel
theorem dX4_strike_60 : decode cX4_strike 60 = .ok (.pop, 1) := by decide +kernel
theorem dX4_strike_61 : decode cX4_strike 61 = .ok (.iconst 1, 1) := by decide +kernel
theorem dX4_strike_62 : decode cX4_strike 62 = .ok (.ireturn, 1) := by decide +kernel
theorem dX4_strike_63 : decode cX4_strike 63 = .ok (.aload_n 0, 1) := by decide +kernel
theorem dX4_strike_64 : decode cX4_strike 64 = .ok (.aload 5, 2) := by decide +kernel
theorem dX4_strike_66 : decode cX4_strike 66 = .ok (.getfield 68, 3) := by decide +kernel
theorem dX4_strike_69 : decode cX4_strike 69 = .ok (.aload 5, 2) := by decide +kernel
theorem dX4_strike_71 : decode cX4_strike 71 = .ok (.getfield 71, 3) := by decide +kernel
theorem dX4_strike_74 : decode cX4_strike 74 = .ok (.aload 5, 2) := by decide +kernel
theorem dX4_strike_76 : decode cX4_strike 76 = .ok (.getfield 74, 3) := by decide +kernel
theorem dX4_strike_79 : decode cX4_strike 79 = .ok (.iload_n 2, 1) := by decide +kernel
theorem dX4_strike_80 : decode cX4_strike 80 = .ok (.iload_n 3, 1) := by decide +kernel
theorem dX4_strike_81 : decode cX4_strike 81 = .ok (.iload 4, 2) := by decide +kernel
theorem dX4_strike_83 : decode cX4_strike 83 = .ok (.invokestatic 32, 3) := by decide +kernel
theorem dX4_strike_86 : decode cX4_strike 86 = .ok (.putfield 21, 3) := by decide +kernel
theorem dX4_strike_89 : decode cX4_strike 89 = .ok (.aload_n 0, 1) := by decide +kernel
theorem dX4_strike_90 : decode cX4_strike 90 = .ok (.getfield 15, 3) := by decide +kernel
theorem dX4_strike_93 : decode cX4_strike 93 = .ok (.aload_n 0, 1) := by decide +kernel
theorem dX4_strike_94 : decode cX4_strike 94 = .ok (.getfield 7, 3) := by decide +kernel
theorem dX4_strike_97 : decode cX4_strike 97 = .ok (.aaload, 1) := by decide +kernel
theorem dX4_strike_98 : decode cX4_strike 98 = .ok (.iconst 3, 1) := by decide +kernel
theorem dX4_strike_99 : decode cX4_strike 99 = .ok (.dup2, 1) := by decide +kernel
theorem dX4_strike_100 : decode cX4_strike 100 = .ok (.iaload, 1) := by decide +kernel
theorem dX4_strike_101 : decode cX4_strike 101 = .ok (.iconst 1, 1) := by decide +kernel
theorem dX4_strike_102 : decode cX4_strike 102 = .ok (.iadd, 1) := by decide +kernel
theorem dX4_strike_103 : decode cX4_strike 103 = .ok (.iastore, 1) := by decide +kernel
theorem dX4_strike_104 : decode cX4_strike 104 = .ok (.aload_n 0, 1) := by decide +kernel
theorem dX4_strike_105 : decode cX4_strike 105 = .ok (.dup, 1) := by decide +kernel
theorem dX4_strike_106 : decode cX4_strike 106 = .ok (.getfield 29, 3) := by decide +kernel
theorem dX4_strike_109 : decode cX4_strike 109 = .ok (.iconst 1, 1) := by decide +kernel
theorem dX4_strike_110 : decode cX4_strike 110 = .ok (.iadd, 1) := by decide +kernel
theorem dX4_strike_111 : decode cX4_strike 111 = .ok (.putfield 29, 3) := by decide +kernel
theorem dX4_strike_114 : decode cX4_strike 114 = .ok (.aload_n 0, 1) := by decide +kernel
theorem dX4_strike_115 : decode cX4_strike 115 = .ok (.iconst 1, 1) := by decide +kernel
theorem dX4_strike_116 : decode cX4_strike 116 = .ok (.aload_n 0, 1) := by decide +kernel
theorem dX4_strike_117 : decode cX4_strike 117 = .ok (.getfield 7, 3) := by decide +kernel
theorem dX4_strike_120 : decode cX4_strike 120 = .ok (.isub, 1) := by decide +kernel
theorem dX4_strike_121 : decode cX4_strike 121 = .ok (.putfield 7, 3) := by decide +kernel
theorem dX4_strike_124 : decode cX4_strike 124 = .ok (.iconst 0, 1) := by decide +kernel
theorem dX4_strike_125 : decode cX4_strike 125 = .ok (.ireturn, 1) := by decide +kernel
theorem dX4_leave_0 : decode cX4_leave 0 = .ok (.aload_n 0, 1) := by decide +kernel
theorem dX4_leave_1 : decode cX4_leave 1 = .ok (.getfield 21, 3) := by decide +kernel
theorem dX4_leave_4 : decode cX4_leave 4 = .ok (.invokevirtual 50, 3) := by decide +kernel
theorem dX4_leave_7 : decode cX4_leave 7 = .ok (.sipush 9999, 3) := by decide +kernel
theorem dX4_leave_10 : decode cX4_leave 10 = .ok (.invokevirtual 54, 3) := by decide +kernel
theorem dX4_leave_13 : decode cX4_leave 13 = .ok (.istore_n 1, 1) := by decide +kernel
theorem dX4_leave_14 : decode cX4_leave 14 = .ok (.aload_n 0, 1) := by decide +kernel
theorem dX4_leave_15 : decode cX4_leave 15 = .ok (.iload_n 1, 1) := by decide +kernel
theorem dX4_leave_16 : decode cX4_leave 16 = .ok (.iconst 3, 1) := by decide +kernel
theorem dX4_leave_17 : decode cX4_leave 17 = .ok (.if_icmp .ne 12, 3) := by decide +kernel
theorem dX4_leave_20 : decode cX4_leave 20 = .ok (.iconst 1, 1) := by decide +kernel
theorem dX4_leave_21 : decode cX4_leave 21 = .ok (.aload_n 0, 1) := by decide +kernel
theorem dX4_leave_22 : decode cX4_leave 22 = .ok (.getfield 7, 3) := by decide +kernel
theorem dX4_leave_25 : decode cX4_leave 25 = .ok (.isub, 1) := by decide +kernel
theorem dX4_leave_26 : decode cX4_leave 26 = .ok (.goto 7, 3) := by decide +kernel
theorem dX4_leave_29 : decode cX4_leave 29 = .ok (.aload_n 0, 1) := by decide +kernel
theorem dX4_leave_30 : decode cX4_leave 30 = .ok (.getfield 7, 3) := by decide +kernel
theorem dX4_leave_33 : decode cX4_leave 33 = .ok (.invokevirtual 58, 3) := by decide +kernel
theorem dX4_leave_36 : decode cX4_leave 36 = .ok (.ireturn, 1) := by decide +kernel
theorem dX4_let_0 : decode cX4_let 0 = .ok (.aload_n 0, 1) := by decide +kernel
theorem dX4_let_1 : decode cX4_let 1 = .ok (.aconst_null, 1) := by decide +kernel
theorem dX4_let_2 : decode cX4_let 2 = .ok (.putfield 21, 3) := by decide +kernel
theorem dX4_let_5 : decode cX4_let 5 = .ok (.aload_n 0, 1) := by decide +kernel
theorem dX4_let_6 : decode cX4_let 6 = .ok (.iconst (-1), 1) := by decide +kernel
theorem dX4_let_7 : decode cX4_let 7 = .ok (.putfield 7, 3) := by decide +kernel
theorem dX4_let_10 : decode cX4_let 10 = .ok (.aload_n 0, 1) := by decide +kernel
theorem dX4_let_11 : decode cX4_let 11 = .ok (.dup, 1) := by decide +kernel
theorem dX4_let_12 : decode cX4_let 12 = .ok (.getfield 77, 3) := by decide +kernel
theorem dX4_let_15 : decode cX4_let 15 = .ok (.iconst 1, 1) := by decide +kernel
theorem dX4_let_16 : decode cX4_let 16 = .ok (.iadd, 1) := by decide +kernel
theorem dX4_let_17 : decode cX4_let 17 = .ok (.putfield 77, 3) := by decide +kernel
theorem dX4_let_20 : decode cX4_let 20 = .ok (.aload_n 0, 1) := by decide +kernel
theorem dX4_let_21 : decode cX4_let 21 = .ok (.getfield 29, 3) := by decide +kernel
theorem dX4_let_24 : decode cX4_let 24 = .ok (.ireturn, 1) := by decide +kernel
theorem dX4_match_0 : decode cX4_match 0 = .ok (.aload_n 0, 1) := by decide +kernel
theorem dX4_match_1 : decode cX4_match 1 = .ok (.getfield 15, 3) := by decide +kernel
theorem dX4_match_4 : decode cX4_match 4 = .ok (.iconst 0, 1) := by decide +kernel
theorem dX4_match_5 : decode cX4_match 5 = .ok (.aaload, 1) := by decide +kernel
theorem dX4_match_6 : decode cX4_match 6 = .ok (.iconst 1, 1) := by decide +kernel
theorem dX4_match_7 : decode cX4_match 7 = .ok (.iaload, 1) := by decide +kernel
theorem dX4_match_8 : decode cX4_match 8 = .ok (.aload_n 0, 1) := by decide +kernel
theorem dX4_match_9 : decode cX4_match 9 = .ok (.getfield 15, 3) := by decide +kernel
theorem dX4_match_12 : decode cX4_match 12 = .ok (.iconst 1, 1) := by decide +kernel
theorem dX4_match_13 : decode cX4_match 13 = .ok (.aaload, 1) := by decide +kernel
theorem dX4_match_14 : decode cX4_match 14 = .ok (.iconst 1, 1) := by decide +kernel
theorem dX4_match_15 : decode cX4_match 15 = .ok (.iaload, 1) := by decide +kernel
theorem dX4_match_16 : decode cX4_match 16 = .ok (.iadd, 1) := by decide +kernel
theorem dX4_match_17 : decode cX4_match 17 = .ok (.istore_n 2, 1) := by decide +kernel
theorem dX4_match_18 : decode cX4_match 18 = .ok (.aload_n 0, 1) := by decide +kernel
theorem dX4_match_19 : decode cX4_match 19 = .ok (.iconst 2, 1) := by decide +kernel
theorem dX4_match_20 : decode cX4_match 20 = .ok (.iconst 4, 1) := by decide +kernel
theorem dX4_match_21 : decode cX4_match 21 = .ok (.multianewarray 13 2, 4) := by decide +kernel
theorem dX4_match_25 : decode cX4_match 25 = .ok (.putfield 15, 3) := by decide +kernel
theorem dX4_match_28 : decode cX4_match 28 = .ok (.aload_n 0, 1) := by decide +kernel
theorem dX4_match_29 : decode cX4_match 29 = .ok (.bipush 12, 2) := by decide +kernel
theorem dX4_match_31 : decode cX4_match 31 = .ok (.putfield 18, 3) := by decide +kernel
theorem dX4_match_34 : decode cX4_match 34 = .ok (.aload_n 0, 1) := by decide +kernel
theorem dX4_match_35 : decode cX4_match 35 = .ok (.iconst 0, 1) := by decide +kernel
theorem dX4_match_36 : decode cX4_match 36 = .ok (.putfield 25, 3) := by decide +kernel
theorem dX4_match_39 : decode cX4_match 39 = .ok (.aload_n 0, 1) := by decide +kernel
theorem dX4_match_40 : decode cX4_match 40 = .ok (.aconst_null, 1) := by decide +kernel
theorem dX4_match_41 : decode cX4_match 41 = .ok (.putfield 21, 3) := by decide +kernel
theorem dX4_match_44 : decode cX4_match 44 = .ok (.aload_n 0, 1) := by decide +kernel
theorem dX4_match_45 : decode cX4_match 45 = .ok (.iconst (-1), 1) := by decide +kernel
theorem dX4_match_46 : decode cX4_match 46 = .ok (.putfield 7, 3) := by decide +kernel
theorem dX4_match_49 : decode cX4_match 49 = .ok (.aload_n 0, 1) := by decide +kernel
theorem dX4_match_50 : decode cX4_match 50 = .ok (.iload_n 1, 1) := by decide +kernel
theorem dX4_match_51 : decode cX4_match 51 = .ok (.putfield 38, 3) := by decide +kernel
theorem dX4_match_54 : decode cX4_match 54 = .ok (.iload_n 2, 1) := by decide +kernel
theorem dX4_match_55 : decode cX4_match 55 = .ok (.ireturn, 1) := by decide +kernel
theorem dX4_counted_0 : decode cX4_counted 0 = .ok (.bipush 9, 2) := by decide +kernel
theorem dX4_counted_2 : decode cX4_counted 2 = .ok (.newarray .int, 2) := by decide +kernel
theorem dX4_counted_4 : decode cX4_counted 4 = .ok (.dup, 1) := by decide +kernel
theorem dX4_counted_5 : decode cX4_counted 5 = .ok (.iconst 0, 1) := by decide +kernel
theorem dX4_counted_6 : decode cX4_counted 6 = .ok (.aload_n 0, 1) := by decide +kernel
theorem dX4_counted_7 : decode cX4_counted 7 = .ok (.getfield 38, 3) := by decide +kernel
theorem dX4_counted_10 : decode cX4_counted 10 = .ok (.iastore, 1) := by decide +kernel
theorem dX4_counted_11 : decode cX4_counted 11 = .ok (.dup, 1) := by decide +kernel
theorem dX4_counted_12 : decode cX4_counted 12 = .ok (.iconst 1, 1) := by decide +kernel
theorem dX4_counted_13 : decode cX4_counted 13 = .ok (.aload_n 0, 1) := by decide +kernel
theorem dX4_counted_14 : decode cX4_counted 14 = .ok (.getfield 7, 3) := by decide +kernel
theorem dX4_counted_17 : decode cX4_counted 17 = .ok (.iastore, 1) := by decide +kernel
theorem dX4_counted_18 : decode cX4_counted 18 = .ok (.dup, 1) := by decide +kernel
theorem dX4_counted_19 : decode cX4_counted 19 = .ok (.iconst 2, 1) := by decide +kernel
theorem dX4_counted_20 : decode cX4_counted 20 = .ok (.aload_n 0, 1) := by decide +kernel
theorem dX4_counted_21 : decode cX4_counted 21 = .ok (.getfield 21, 3) := by decide +kernel
theorem dX4_counted_24 : decode cX4_counted 24 = .ok (.ifnonnull 7, 3) := by decide +kernel
theorem dX4_counted_27 : decode cX4_counted 27 = .ok (.iconst 0, 1) := by decide +kernel
theorem dX4_counted_28 : decode cX4_counted 28 = .ok (.goto 7, 3) := by decide +kernel
theorem dX4_counted_31 : decode cX4_counted 31 = .ok (.aload_n 0, 1) := by decide +kernel
theorem dX4_counted_32 : decode cX4_counted 32 = .ok (.getfield 29, 3) := by decide +kernel
theorem dX4_counted_35 : decode cX4_counted 35 = .ok (.iastore, 1) := by decide +kernel
theorem dX4_counted_36 : decode cX4_counted 36 = .ok (.dup, 1) := by decide +kernel
theorem dX4_counted_37 : decode cX4_counted 37 = .ok (.iconst 3, 1) := by decide +kernel
theorem dX4_counted_38 : decode cX4_counted 38 = .ok (.aload_n 0, 1) := by decide +kernel
theorem dX4_counted_39 : decode cX4_counted 39 = .ok (.getfield 41, 3) := by decide +kernel
theorem dX4_counted_42 : decode cX4_counted 42 = .ok (.iastore, 1) := by decide +kernel
theorem dX4_counted_43 : decode cX4_counted 43 = .ok (.dup, 1) := by decide +kernel
theorem dX4_counted_44 : decode cX4_counted 44 = .ok (.iconst 4, 1) := by decide +kernel
theorem dX4_counted_45 : decode cX4_counted 45 = .ok (.aload_n 0, 1) := by decide +kernel
theorem dX4_counted_46 : decode cX4_counted 46 = .ok (.getfield 77, 3) := by decide +kernel
theorem dX4_counted_49 : decode cX4_counted 49 = .ok (.iastore, 1) := by decide +kernel
theorem dX4_counted_50 : decode cX4_counted 50 = .ok (.dup, 1) := by decide +kernel
theorem dX4_counted_51 : decode cX4_counted 51 = .ok (.iconst 5, 1) := by decide +kernel
theorem dX4_counted_52 : decode cX4_counted 52 = .ok (.aload_n 0, 1) := by decide +kernel
theorem dX4_counted_53 : decode cX4_counted 53 = .ok (.getfield 18, 3) := by decide +kernel
theorem dX4_counted_56 : decode cX4_counted 56 = .ok (.iastore, 1) := by decide +kernel
theorem dX4_counted_57 : decode cX4_counted 57 = .ok (.dup, 1) := by decide +kernel
theorem dX4_counted_58 : decode cX4_counted 58 = .ok (.bipush 6, 2) := by decide +kernel
theorem dX4_counted_60 : decode cX4_counted 60 = .ok (.aload_n 0, 1) := by decide +kernel
theorem dX4_counted_61 : decode cX4_counted 61 = .ok (.invokevirtual 80, 3) := by decide +kernel
theorem dX4_counted_64 : decode cX4_counted 64 = .ok (.ifCond .eq 7, 3) := by decide +kernel
theorem dX4_counted_67 : decode cX4_counted 67 = .ok (.iconst 1, 1) := by decide +kernel
theorem dX4_counted_68 : decode cX4_counted 68 = .ok (.goto 4, 3) := by decide +kernel
theorem dX4_counted_71 : decode cX4_counted 71 = .ok (.iconst 0, 1) := by decide +kernel
theorem dX4_counted_72 : decode cX4_counted 72 = .ok (.iastore, 1) := by decide +kernel
theorem dX4_counted_73 : decode cX4_counted 73 = .ok (.dup, 1) := by decide +kernel
theorem dX4_counted_74 : decode cX4_counted 74 = .ok (.bipush 7, 2) := by decide +kernel
theorem dX4_counted_76 : decode cX4_counted 76 = .ok (.aload_n 0, 1) := by decide +kernel
theorem dX4_counted_77 : decode cX4_counted 77 = .ok (.invokevirtual 84, 3) := by decide +kernel
theorem dX4_counted_80 : decode cX4_counted 80 = .ok (.iastore, 1) := by decide +kernel
theorem dX4_counted_81 : decode cX4_counted 81 = .ok (.dup, 1) := by decide +kernel
theorem dX4_counted_82 : decode cX4_counted 82 = .ok (.bipush 8, 2) := by decide +kernel
theorem dX4_counted_84 : decode cX4_counted 84 = .ok (.aload_n 0, 1) := by decide +kernel
theorem dX4_counted_85 : decode cX4_counted 85 = .ok (.getfield 47, 3) := by decide +kernel
theorem dX4_counted_88 : decode cX4_counted 88 = .ok (.iastore, 1) := by decide +kernel
theorem dX4_counted_89 : decode cX4_counted 89 = .ok (.astore_n 2, 1) := by decide +kernel
theorem dX4_counted_90 : decode cX4_counted 90 = .ok (.aload_n 2, 1) := by decide +kernel
theorem dX4_counted_91 : decode cX4_counted 91 = .ok (.iload_n 1, 1) := by decide +kernel
theorem dX4_counted_92 : decode cX4_counted 92 = .ok (.iaload, 1) := by decide +kernel
theorem dX4_counted_93 : decode cX4_counted 93 = .ok (.ireturn, 1) := by decide +kernel
theorem dX4_isSame_0 : decode cX4_isSame 0 = .ok (.iconst 0, 1) := by decide +kernel
theorem dX4_isSame_1 : decode cX4_isSame 1 = .ok (.istore_n 2, 1) := by decide +kernel
theorem dX4_isSame_2 : decode cX4_isSame 2 = .ok (.iload_n 2, 1) := by decide +kernel
theorem dX4_isSame_3 : decode cX4_isSame 3 = .ok (.bipush 9, 2) := by decide +kernel
theorem dX4_isSame_5 : decode cX4_isSame 5 = .ok (.if_icmp .ge 24, 3) := by decide +kernel
theorem dX4_isSame_8 : decode cX4_isSame 8 = .ok (.aload_n 1, 1) := by decide +kernel
theorem dX4_isSame_9 : decode cX4_isSame 9 = .ok (.iload_n 2, 1) := by decide +kernel
theorem dX4_isSame_10 : decode cX4_isSame 10 = .ok (.invokevirtual 87, 3) := by decide +kernel
theorem dX4_isSame_13 : decode cX4_isSame 13 = .ok (.aload_n 0, 1) := by decide +kernel
theorem dX4_isSame_14 : decode cX4_isSame 14 = .ok (.iload_n 2, 1) := by decide +kernel
theorem dX4_isSame_15 : decode cX4_isSame 15 = .ok (.invokevirtual 92, 3) := by decide +kernel
theorem dX4_isSame_18 : decode cX4_isSame 18 = .ok (.if_icmp .eq 5, 3) := by decide +kernel
theorem dX4_isSame_21 : decode cX4_isSame 21 = .ok (.iconst 0, 1) := by decide +kernel
theorem dX4_isSame_22 : decode cX4_isSame 22 = .ok (.ireturn, 1) := by decide +kernel
theorem dX4_isSame_23 : decode cX4_isSame 23 = .ok (.iinc 2 1, 3) := by decide +kernel
theorem dX4_isSame_26 : decode cX4_isSame 26 = .ok (.goto (-24), 3) := by decide +kernel
theorem dX4_isSame_29 : decode cX4_isSame 29 = .ok (.iconst 0, 1) := by decide +kernel
theorem dX4_isSame_30 : decode cX4_isSame 30 = .ok (.istore_n 2, 1) := by decide +kernel
theorem dX4_isSame_31 : decode cX4_isSame 31 = .ok (.iload_n 2, 1) := by decide +kernel
theorem dX4_isSame_32 : decode cX4_isSame 32 = .ok (.iconst 2, 1) := by decide +kernel
theorem dX4_isSame_33 : decode cX4_isSame 33 = .ok (.if_icmp .ge 41, 3) := by decide +kernel
theorem dX4_isSame_36 : decode cX4_isSame 36 = .ok (.iconst 0, 1) := by decide +kernel
theorem dX4_isSame_37 : decode cX4_isSame 37 = .ok (.istore_n 3, 1) := by decide +kernel
theorem dX4_isSame_38 : decode cX4_isSame 38 = .ok (.iload_n 3, 1) := by decide +kernel
theorem dX4_isSame_39 : decode cX4_isSame 39 = .ok (.iconst 4, 1) := by decide +kernel
theorem dX4_isSame_40 : decode cX4_isSame 40 = .ok (.if_icmp .ge 28, 3) := by decide +kernel
theorem dX4_isSame_43 : decode cX4_isSame 43 = .ok (.aload_n 1, 1) := by decide +kernel
theorem dX4_isSame_44 : decode cX4_isSame 44 = .ok (.iload_n 2, 1) := by decide +kernel
theorem dX4_isSame_45 : decode cX4_isSame 45 = .ok (.iload_n 3, 1) := by decide +kernel
theorem dX4_isSame_46 : decode cX4_isSame 46 = .ok (.invokevirtual 95, 3) := by decide +kernel
theorem dX4_isSame_49 : decode cX4_isSame 49 = .ok (.aload_n 0, 1) := by decide +kernel
theorem dX4_isSame_50 : decode cX4_isSame 50 = .ok (.getfield 15, 3) := by decide +kernel
theorem dX4_isSame_53 : decode cX4_isSame 53 = .ok (.iload_n 2, 1) := by decide +kernel
theorem dX4_isSame_54 : decode cX4_isSame 54 = .ok (.aaload, 1) := by decide +kernel
theorem dX4_isSame_55 : decode cX4_isSame 55 = .ok (.iload_n 3, 1) := by decide +kernel
theorem dX4_isSame_56 : decode cX4_isSame 56 = .ok (.iaload, 1) := by decide +kernel
theorem dX4_isSame_57 : decode cX4_isSame 57 = .ok (.if_icmp .eq 5, 3) := by decide +kernel
theorem dX4_isSame_60 : decode cX4_isSame 60 = .ok (.iconst 0, 1) := by decide +kernel
theorem dX4_isSame_61 : decode cX4_isSame 61 = .ok (.ireturn, 1) := by decide +kernel
theorem dX4_isSame_62 : decode cX4_isSame 62 = .ok (.iinc 3 1, 3) := by decide +kernel
theorem dX4_isSame_65 : decode cX4_isSame 65 = .ok (.goto (-27), 3) := by decide +kernel
theorem dX4_isSame_68 : decode cX4_isSame 68 = .ok (.iinc 2 1, 3) := by decide +kernel
theorem dX4_isSame_71 : decode cX4_isSame 71 = .ok (.goto (-40), 3) := by decide +kernel
theorem dX4_isSame_74 : decode cX4_isSame 74 = .ok (.iconst 0, 1) := by decide +kernel
theorem dX4_isSame_75 : decode cX4_isSame 75 = .ok (.istore_n 2, 1) := by decide +kernel
theorem dX4_isSame_76 : decode cX4_isSame 76 = .ok (.iload_n 2, 1) := by decide +kernel
theorem dX4_isSame_77 : decode cX4_isSame 77 = .ok (.bipush 6, 2) := by decide +kernel
theorem dX4_isSame_79 : decode cX4_isSame 79 = .ok (.if_icmp .ge 38, 3) := by decide +kernel
theorem dX4_isSame_82 : decode cX4_isSame 82 = .ok (.aload_n 1, 1) := by decide +kernel
theorem dX4_isSame_83 : decode cX4_isSame 83 = .ok (.iload_n 2, 1) := by decide +kernel
theorem dX4_isSame_84 : decode cX4_isSame 84 = .ok (.invokevirtual 99, 3) := by decide +kernel
theorem dX4_isSame_87 : decode cX4_isSame 87 = .ok (.aload_n 0, 1) := by decide +kernel
theorem dX4_isSame_88 : decode cX4_isSame 88 = .ok (.getfield 21, 3) := by decide +kernel
theorem dX4_isSame_91 : decode cX4_isSame 91 = .ok (.ifnonnull 7, 3) := by decide +kernel
theorem dX4_isSame_94 : decode cX4_isSame 94 = .ok (.iconst 0, 1) := by decide +kernel
theorem dX4_isSame_95 : decode cX4_isSame 95 = .ok (.goto 11, 3) := by decide +kernel
theorem dX4_isSame_98 : decode cX4_isSame 98 = .ok (.aload_n 0, 1) := by decide +kernel
theorem dX4_isSame_99 : decode cX4_isSame 99 = .ok (.getfield 21, 3) := by decide +kernel
theorem dX4_isSame_102 : decode cX4_isSame 102 = .ok (.iload_n 2, 1) := by decide +kernel
theorem dX4_isSame_103 : decode cX4_isSame 103 = .ok (.invokevirtual 101, 3) := by decide +kernel
theorem dX4_isSame_106 : decode cX4_isSame 106 = .ok (.if_icmp .eq 5, 3) := by decide +kernel
theorem dX4_isSame_109 : decode cX4_isSame 109 = .ok (.iconst 0, 1) := by decide +kernel
theorem dX4_isSame_110 : decode cX4_isSame 110 = .ok (.ireturn, 1) := by decide +kernel
theorem dX4_isSame_111 : decode cX4_isSame 111 = .ok (.iinc 2 1, 3) := by decide +kernel
theorem dX4_isSame_114 : decode cX4_isSame 114 = .ok (.goto (-38), 3) := by decide +kernel
theorem dX4_isSame_117 : decode cX4_isSame 117 = .ok (.aload_n 1, 1) := by decide +kernel
theorem dX4_isSame_118 : decode cX4_isSame 118 = .ok (.invokevirtual 103, 3) := by decide +kernel
theorem dX4_isSame_121 : decode cX4_isSame 121 = .ok (.aload_n 0, 1) := by decide +kernel
theorem dX4_isSame_122 : decode cX4_isSame 122 = .ok (.getfield 41, 3) := by decide +kernel
theorem dX4_isSame_125 : decode cX4_isSame 125 = .ok (.ifCond .ne 7, 3) := by decide +kernel
theorem dX4_isSame_128 : decode cX4_isSame 128 = .ok (.dconst 0, 1) := by decide +kernel
theorem dX4_isSame_129 : decode cX4_isSame 129 = .ok (.goto 14, 3) := by decide +kernel
theorem dX4_isSame_132 : decode cX4_isSame 132 = .ok (.aload_n 0, 1) := by decide +kernel
theorem dX4_isSame_133 : decode cX4_isSame 133 = .ok (.getfield 44, 3) := by decide +kernel
theorem dX4_isSame_136 : decode cX4_isSame 136 = .ok (.i2d, 1) := by decide +kernel
theorem dX4_isSame_137 : decode cX4_isSame 137 = .ok (.aload_n 0, 1) := by decide +kernel
theorem dX4_isSame_138 : decode cX4_isSame 138 = .ok (.getfield 41, 3) := by decide +kernel
theorem dX4_isSame_141 : decode cX4_isSame 141 = .ok (.i2d, 1) := by decide +kernel
theorem dX4_isSame_142 : decode cX4_isSame 142 = .ok (.ddiv, 1) := by decide +kernel
theorem dX4_isSame_143 : decode cX4_isSame 143 = .ok (.dcmp .l, 1) := by decide +kernel
theorem dX4_isSame_144 : decode cX4_isSame 144 = .ok (.ifCond .ne 7, 3) := by decide +kernel
theorem dX4_isSame_147 : decode cX4_isSame 147 = .ok (.iconst 1, 1) := by decide +kernel
theorem dX4_isSame_148 : decode cX4_isSame 148 = .ok (.goto 4, 3) := by decide +kernel
theorem dX4_isSame_151 : decode cX4_isSame 151 = .ok (.iconst 0, 1) := by decide +kernel
theorem dX4_isSame_152 : decode cX4_isSame 152 = .ok (.ireturn, 1) := by decide +kernel
theorem dJ6_signum_0f7a4_0 : decode cJ6_signum_0f7a4 0 = .ok (.iload_n 0, 1) := by decide +kernel
theorem dJ6_signum_0f7a4_1 : decode cJ6_signum_0f7a4 1 = .ok (.bipush 31, 2) := by decide +kernel
theorem dJ6_signum_0f7a4_3 : decode cJ6_signum_0f7a4 3 = .ok (.ishr, 1) := by decide +kernel
theorem dJ6_signum_0f7a4_4 : decode cJ6_signum_0f7a4 4 = .ok (.iload_n 0, 1) := by decide +kernel
theorem dJ6_signum_0f7a4_5 : decode cJ6_signum_0f7a4 5 = .ok (.ineg, 1) := by decide +kernel
theorem dJ6_signum_0f7a4_6 : decode cJ6_signum_0f7a4 6 = .ok (.bipush 31, 2) := by decide +kernel
theorem dJ6_signum_0f7a4_8 : decode cJ6_signum_0f7a4 8 = .ok (.iushr, 1) := by decide +kernel
theorem dJ6_signum_0f7a4_9 : decode cJ6_signum_0f7a4 9 = .ok (.ior, 1) := by decide +kernel
theorem dJ6_signum_0f7a4_10 : decode cJ6_signum_0f7a4 10 = .ok (.ireturn, 1) := by decide +kernel
theorem dJ9_abs_0f7a4_0 : decode cJ9_abs_0f7a4 0 = .ok (.iload_n 0, 1) := by decide +kernel
theorem dJ9_abs_0f7a4_1 : decode cJ9_abs_0f7a4 1 = .ok (.ifCond .ge 8, 3) := by decide +kernel
theorem dJ9_abs_0f7a4_4 : decode cJ9_abs_0f7a4 4 = .ok (.iload_n 0, 1) := by decide +kernel
theorem dJ9_abs_0f7a4_5 : decode cJ9_abs_0f7a4 5 = .ok (.ineg, 1) := by decide +kernel
theorem dJ9_abs_0f7a4_6 : decode cJ9_abs_0f7a4 6 = .ok (.goto 4, 3) := by decide +kernel
theorem dJ9_abs_0f7a4_9 : decode cJ9_abs_0f7a4 9 = .ok (.iload_n 0, 1) := by decide +kernel
theorem dJ9_abs_0f7a4_10 : decode cJ9_abs_0f7a4 10 = .ok (.ireturn, 1) := by decide +kernel
theorem dJ9_max_7cf53_0 : decode cJ9_max_7cf53 0 = .ok (.iload_n 0, 1) := by decide +kernel
theorem dJ9_max_7cf53_1 : decode cJ9_max_7cf53 1 = .ok (.iload_n 1, 1) := by decide +kernel
theorem dJ9_max_7cf53_2 : decode cJ9_max_7cf53 2 = .ok (.if_icmp .lt 7, 3) := by decide +kernel
theorem dJ9_max_7cf53_5 : decode cJ9_max_7cf53 5 = .ok (.iload_n 0, 1) := by decide +kernel
theorem dJ9_max_7cf53_6 : decode cJ9_max_7cf53 6 = .ok (.goto 4, 3) := by decide +kernel
theorem dJ9_max_7cf53_9 : decode cJ9_max_7cf53 9 = .ok (.iload_n 1, 1) := by decide +kernel
theorem dJ9_max_7cf53_10 : decode cJ9_max_7cf53 10 = .ok (.ireturn, 1) := by decide +kernel
theorem dJ9_min_7cf53_0 : decode cJ9_min_7cf53 0 = .ok (.iload_n 0, 1) := by decide +kernel
theorem dJ9_min_7cf53_1 : decode cJ9_min_7cf53 1 = .ok (.iload_n 1, 1) := by decide +kernel
theorem dJ9_min_7cf53_2 : decode cJ9_min_7cf53 2 = .ok (.if_icmp .gt 7, 3) := by decide +kernel
theorem dJ9_min_7cf53_5 : decode cJ9_min_7cf53 5 = .ok (.iload_n 0, 1) := by decide +kernel
theorem dJ9_min_7cf53_6 : decode cJ9_min_7cf53 6 = .ok (.goto 4, 3) := by decide +kernel
theorem dJ9_min_7cf53_9 : decode cJ9_min_7cf53 9 = .ok (.iload_n 1, 1) := by decide +kernel
theorem dJ9_min_7cf53_10 : decode cJ9_min_7cf53 10 = .ok (.ireturn, 1) := by decide +kernel
theorem dL_below_0 : decode cL_below 0 = .ok (.iload_n 0, 1) := by decide +kernel
theorem dL_below_1 : decode cL_below 1 = .ok (.ldc 7, 2) := by decide +kernel
theorem dL_below_3 : decode cL_below 3 = .ok (.iand, 1) := by decide +kernel
theorem dL_below_4 : decode cL_below 4 = .ok (.iload_n 1, 1) := by decide +kernel
theorem dL_below_5 : decode cL_below 5 = .ok (.irem, 1) := by decide +kernel
theorem dL_below_6 : decode cL_below 6 = .ok (.ireturn, 1) := by decide +kernel
theorem dL_cell_0 : decode cL_cell 0 = .ok (.iload_n 1, 1) := by decide +kernel
theorem dL_cell_1 : decode cL_cell 1 = .ok (.aload_n 0, 1) := by decide +kernel
theorem dL_cell_2 : decode cL_cell 2 = .ok (.arraylength, 1) := by decide +kernel
theorem dL_cell_3 : decode cL_cell 3 = .ok (.if_icmp .ge 9, 3) := by decide +kernel
theorem dL_cell_6 : decode cL_cell 6 = .ok (.aload_n 0, 1) := by decide +kernel
theorem dL_cell_7 : decode cL_cell 7 = .ok (.iload_n 1, 1) := by decide +kernel
theorem dL_cell_8 : decode cL_cell 8 = .ok (.iaload, 1) := by decide +kernel
theorem dL_cell_9 : decode cL_cell 9 = .ok (.goto 9, 3) := by decide +kernel
theorem dL_cell_12 : decode cL_cell 12 = .ok (.ldc 8, 2) := by decide +kernel
theorem dL_cell_14 : decode cL_cell 14 = .ok (.iload_n 1, 1) := by decide +kernel
theorem dL_cell_15 : decode cL_cell 15 = .ok (.iconst 3, 1) := by decide +kernel
theorem dL_cell_16 : decode cL_cell 16 = .ok (.iadd, 1) := by decide +kernel
theorem dL_cell_17 : decode cL_cell 17 = .ok (.imul, 1) := by decide +kernel
theorem dL_cell_18 : decode cL_cell 18 = .ok (.ireturn, 1) := by decide +kernel
theorem dL_moments_0 : decode cL_moments 0 = .ok (.aload_n 0, 1) := by decide +kernel
theorem dL_moments_1 : decode cL_moments 1 = .ok (.getfield 9, 3) := by decide +kernel
theorem dL_moments_4 : decode cL_moments 4 = .ok (.invokevirtual 15, 3) := by decide +kernel
theorem dL_moments_7 : decode cL_moments 7 = .ok (.astore_n 2, 1) := by decide +kernel
theorem dL_moments_8 : decode cL_moments 8 = .ok (.iconst 1, 1) := by decide +kernel
theorem dL_moments_9 : decode cL_moments 9 = .ok (.istore_n 3, 1) := by decide +kernel
theorem dL_moments_10 : decode cL_moments 10 = .ok (.aload_n 2, 1) := by decide +kernel
theorem dL_moments_11 : decode cL_moments 11 = .ok (.invokevirtual 21, 3) := by decide +kernel
theorem dL_moments_14 : decode cL_moments 14 = .ok (.ifCond .ne 16, 3) := by decide +kernel
theorem dL_moments_17 : decode cL_moments 17 = .ok (.aload_n 2, 1) := by decide +kernel
theorem dL_moments_18 : decode cL_moments 18 = .ok (.getfield 25, 3) := by decide +kernel
theorem dL_moments_21 : decode cL_moments 21 = .ok (.ifCond .ne 9, 3) := by decide +kernel
theorem dL_moments_24 : decode cL_moments 24 = .ok (.iinc 3 1, 3) := by decide +kernel
theorem dL_moments_27 : decode cL_moments 27 = .ok (.goto (-17), 3) := by decide +kernel
theorem dL_moments_30 : decode cL_moments 30 = .ok (.iload_n 3, 1) := by decide +kernel
theorem dL_moments_31 : decode cL_moments 31 = .ok (.istore 4, 2) := by decide +kernel
theorem dL_moments_33 : decode cL_moments 33 = .ok (.iload 4, 2) := by decide +kernel
theorem dL_moments_35 : decode cL_moments 35 = .ok (.bipush 60, 2) := by decide +kernel
theorem dL_moments_37 : decode cL_moments 37 = .ok (.if_icmp .ge 16, 3) := by decide +kernel
theorem dL_moments_40 : decode cL_moments 40 = .ok (.aload_n 2, 1) := by decide +kernel
theorem dL_moments_41 : decode cL_moments 41 = .ok (.invokevirtual 21, 3) := by decide +kernel
theorem dL_moments_44 : decode cL_moments 44 = .ok (.ifCond .ne 9, 3) := by decide +kernel
theorem dL_moments_47 : decode cL_moments 47 = .ok (.iinc 4 1, 3) := by decide +kernel
theorem dL_moments_50 : decode cL_moments 50 = .ok (.goto (-17), 3) := by decide +kernel
theorem dL_moments_53 : decode cL_moments 53 = .ok (.iload 4, 2) := by decide +kernel
theorem dL_moments_55 : decode cL_moments 55 = .ok (.iload_n 3, 1) := by decide +kernel
theorem dL_moments_56 : decode cL_moments 56 = .ok (.if_icmp .le 12, 3) := by decide +kernel
theorem dL_moments_59 : decode cL_moments 59 = .ok (.iload 4, 2) := by decide +kernel
theorem dL_moments_61 : decode cL_moments 61 = .ok (.iload_n 3, 1) := by decide +kernel
theorem dL_moments_62 : decode cL_moments 62 = .ok (.isub, 1) := by decide +kernel
theorem dL_moments_63 : decode cL_moments 63 = .ok (.iconst 1, 1) := by decide +kernel
theorem dL_moments_64 : decode cL_moments 64 = .ok (.iadd, 1) := by decide +kernel
theorem dL_moments_65 : decode cL_moments 65 = .ok (.goto 4, 3) := by decide +kernel
theorem dL_moments_68 : decode cL_moments 68 = .ok (.iconst 1, 1) := by decide +kernel
theorem dL_moments_69 : decode cL_moments 69 = .ok (.istore 5, 2) := by decide +kernel
theorem dL_moments_71 : decode cL_moments 71 = .ok (.iload_n 1, 1) := by decide +kernel
theorem dL_moments_72 : decode cL_moments 72 = .ok (.iconst 5, 1) := by decide +kernel
theorem dL_moments_73 : decode cL_moments 73 = .ok (.invokestatic 29, 3) := by decide +kernel
theorem dL_moments_76 : decode cL_moments 76 = .ok (.ifCond .ne 16, 3) := by decide +kernel
theorem dL_moments_79 : decode cL_moments 79 = .ok (.iconst 1, 1) := by decide +kernel
theorem dL_moments_80 : decode cL_moments 80 = .ok (.iload_n 1, 1) := by decide +kernel
theorem dL_moments_81 : decode cL_moments 81 = .ok (.iconst 2, 1) := by decide +kernel
theorem dL_moments_82 : decode cL_moments 82 = .ok (.ishr, 1) := by decide +kernel
theorem dL_moments_83 : decode cL_moments 83 = .ok (.bipush 60, 2) := by decide +kernel
theorem dL_moments_85 : decode cL_moments 85 = .ok (.invokestatic 29, 3) := by decide +kernel
theorem dL_moments_88 : decode cL_moments 88 = .ok (.iadd, 1) := by decide +kernel
theorem dL_moments_89 : decode cL_moments 89 = .ok (.goto 18, 3) := by decide +kernel
theorem dL_moments_92 : decode cL_moments 92 = .ok (.bipush 60, 2) := by decide +kernel
theorem dL_moments_94 : decode cL_moments 94 = .ok (.iload_n 3, 1) := by decide +kernel
theorem dL_moments_95 : decode cL_moments 95 = .ok (.iload_n 1, 1) := by decide +kernel
theorem dL_moments_96 : decode cL_moments 96 = .ok (.iconst 2, 1) := by decide +kernel
theorem dL_moments_97 : decode cL_moments 97 = .ok (.ishr, 1) := by decide +kernel
theorem dL_moments_98 : decode cL_moments 98 = .ok (.iload 5, 2) := by decide +kernel
theorem dL_moments_100 : decode cL_moments 100 = .ok (.invokestatic 29, 3) := by decide +kernel
theorem dL_moments_103 : decode cL_moments 103 = .ok (.iadd, 1) := by decide +kernel
theorem dL_moments_104 : decode cL_moments 104 = .ok (.invokestatic 35, 3) := by decide +kernel
theorem dL_moments_107 : decode cL_moments 107 = .ok (.ireturn, 1) := by decide +kernel
theorem dL_act_0 : decode cL_act 0 = .ok (.iload_n 2, 1) := by decide +kernel
theorem dL_act_1 : decode cL_act 1 = .ok (.iconst 2, 1) := by decide +kernel
theorem dL_act_2 : decode cL_act 2 = .ok (.ishr, 1) := by decide +kernel
theorem dL_act_3 : decode cL_act 3 = .ok (.iconst 5, 1) := by decide +kernel
theorem dL_act_4 : decode cL_act 4 = .ok (.invokestatic 29, 3) := by decide +kernel
theorem dL_act_7 : decode cL_act 7 = .ok (.iconst 2, 1) := by decide +kernel
theorem dL_act_8 : decode cL_act 8 = .ok (.isub, 1) := by decide +kernel
theorem dL_act_9 : decode cL_act 9 = .ok (.istore_n 3, 1) := by decide +kernel
theorem dL_act_10 : decode cL_act 10 = .ok (.iload_n 2, 1) := by decide +kernel
theorem dL_act_11 : decode cL_act 11 = .ok (.iconst 5, 1) := by decide +kernel
theorem dL_act_12 : decode cL_act 12 = .ok (.ishr, 1) := by decide +kernel
theorem dL_act_13 : decode cL_act 13 = .ok (.iconst 5, 1) := by decide +kernel
theorem dL_act_14 : decode cL_act 14 = .ok (.invokestatic 29, 3) := by decide +kernel
theorem dL_act_17 : decode cL_act 17 = .ok (.ifCond .ne 15, 3) := by decide +kernel
theorem dL_act_20 : decode cL_act 20 = .ok (.iload_n 2, 1) := by decide +kernel
theorem dL_act_21 : decode cL_act 21 = .ok (.iconst 4, 1) := by decide +kernel
theorem dL_act_22 : decode cL_act 22 = .ok (.ishr, 1) := by decide +kernel
theorem dL_act_23 : decode cL_act 23 = .ok (.iconst 5, 1) := by decide +kernel
theorem dL_act_24 : decode cL_act 24 = .ok (.invokestatic 29, 3) := by decide +kernel
theorem dL_act_27 : decode cL_act 27 = .ok (.iconst 2, 1) := by decide +kernel
theorem dL_act_28 : decode cL_act 28 = .ok (.isub, 1) := by decide +kernel
theorem dL_act_29 : decode cL_act 29 = .ok (.goto 12, 3) := by decide +kernel
theorem dL_act_32 : decode cL_act 32 = .ok (.iconst (-1), 1) := by decide +kernel
theorem dL_act_33 : decode cL_act 33 = .ok (.iload_n 2, 1) := by decide +kernel
theorem dL_act_34 : decode cL_act 34 = .ok (.iconst 4, 1) := by decide +kernel
theorem dL_act_35 : decode cL_act 35 = .ok (.ishr, 1) := by decide +kernel
theorem dL_act_36 : decode cL_act 36 = .ok (.iconst 2, 1) := by decide +kernel
theorem dL_act_37 : decode cL_act 37 = .ok (.invokestatic 29, 3) := by decide +kernel
theorem dL_act_40 : decode cL_act 40 = .ok (.isub, 1) := by decide +kernel
theorem dL_act_41 : decode cL_act 41 = .ok (.istore 4, 2) := by decide +kernel
theorem dL_act_43 : decode cL_act 43 = .ok (.iload_n 2, 1) := by decide +kernel
theorem dL_act_44 : decode cL_act 44 = .ok (.iconst 5, 1) := by decide +kernel
theorem dL_act_45 : decode cL_act 45 = .ok (.ishr, 1) := by decide +kernel
theorem dL_act_46 : decode cL_act 46 = .ok (.iconst 4, 1) := by decide +kernel
theorem dL_act_47 : decode cL_act 47 = .ok (.invokestatic 29, 3) := by decide +kernel
theorem dL_act_50 : decode cL_act 50 = .ok (.ifCond .ne 14, 3) := by decide +kernel
theorem dL_act_53 : decode cL_act 53 = .ok (.iload_n 2, 1) := by decide +kernel
theorem dL_act_54 : decode cL_act 54 = .ok (.iconst 3, 1) := by decide +kernel
theorem dL_act_55 : decode cL_act 55 = .ok (.ishr, 1) := by decide +kernel
theorem dL_act_56 : decode cL_act 56 = .ok (.bipush 10, 2) := by decide +kernel
theorem dL_act_58 : decode cL_act 58 = .ok (.invokestatic 29, 3) := by decide +kernel
theorem dL_act_61 : decode cL_act 61 = .ok (.goto 13, 3) := by decide +kernel
theorem dL_act_64 : decode cL_act 64 = .ok (.iconst 4, 1) := by decide +kernel
theorem dL_act_65 : decode cL_act 65 = .ok (.iload_n 2, 1) := by decide +kernel
theorem dL_act_66 : decode cL_act 66 = .ok (.iconst 3, 1) := by decide +kernel
theorem dL_act_67 : decode cL_act 67 = .ok (.ishr, 1) := by decide +kernel
theorem dL_act_68 : decode cL_act 68 = .ok (.bipush 6, 2) := by decide +kernel
theorem dL_act_70 : decode cL_act 70 = .ok (.invokestatic 29, 3) := by decide +kernel
theorem dL_act_73 : decode cL_act 73 = .ok (.iadd, 1) := by decide +kernel
theorem dL_act_74 : decode cL_act 74 = .ok (.istore 5, 2) := by decide +kernel
theorem dL_act_76 : decode cL_act 76 = .ok (.aload_n 1, 1) := by decide +kernel
theorem dL_act_77 : decode cL_act 77 = .ok (.getfield 9, 3) := by decide +kernel
theorem dL_act_80 : decode cL_act 80 = .ok (.ifnonnull 173, 3) := by decide +kernel
theorem dL_act_83 : decode cL_act 83 = .ok (.aload_n 1, 1) := by decide +kernel
theorem dL_act_84 : decode cL_act 84 = .ok (.invokevirtual 40, 3) := by decide +kernel
theorem dL_act_87 : decode cL_act 87 = .ok (.ifCond .ge 12, 3) := by decide +kernel
theorem dL_act_90 : decode cL_act 90 = .ok (.iload_n 2, 1) := by decide +kernel
theorem dL_act_91 : decode cL_act 91 = .ok (.bipush 40, 2) := by decide +kernel
theorem dL_act_93 : decode cL_act 93 = .ok (.invokestatic 29, 3) := by decide +kernel
theorem dL_act_96 : decode cL_act 96 = .ok (.ifCond .ne 33, 3) := by decide +kernel
theorem dL_act_99 : decode cL_act 99 = .ok (.iload_n 2, 1) := by decide +kernel
theorem dL_act_100 : decode cL_act 100 = .ok (.iconst 4, 1) := by decide +kernel
theorem dL_act_101 : decode cL_act 101 = .ok (.ishr, 1) := by decide +kernel
theorem dL_act_102 : decode cL_act 102 = .ok (.iconst 2, 1) := by decide +kernel
theorem dL_act_103 : decode cL_act 103 = .ok (.invokestatic 29, 3) := by decide +kernel
theorem dL_act_106 : decode cL_act 106 = .ok (.istore 6, 2) := by decide +kernel
theorem dL_act_108 : decode cL_act 108 = .ok (.aload_n 0, 1) := by decide +kernel
theorem dL_act_109 : decode cL_act 109 = .ok (.iload 6, 2) := by decide +kernel
theorem dL_act_111 : decode cL_act 111 = .ok (.invokevirtual 43, 3) := by decide +kernel
theorem dL_act_114 : decode cL_act 114 = .ok (.aload_n 1, 1) := by decide +kernel
theorem dL_act_115 : decode cL_act 115 = .ok (.iload 6, 2) := by decide +kernel
theorem dL_act_117 : decode cL_act 117 = .ok (.invokevirtual 49, 3) := by decide +kernel
theorem dL_act_120 : decode cL_act 120 = .ok (.if_icmp .ne 7, 3) := by decide +kernel
theorem dL_act_123 : decode cL_act 123 = .ok (.iconst 1, 1) := by decide +kernel
theorem dL_act_124 : decode cL_act 124 = .ok (.goto 4, 3) := by decide +kernel
theorem dL_act_127 : decode cL_act 127 = .ok (.iconst 0, 1) := by decide +kernel
theorem dL_act_128 : decode cL_act 128 = .ok (.ireturn, 1) := by decide +kernel
theorem dL_act_129 : decode cL_act 129 = .ok (.iload_n 2, 1) := by decide +kernel
theorem dL_act_130 : decode cL_act 130 = .ok (.iconst 3, 1) := by decide +kernel
theorem dL_act_131 : decode cL_act 131 = .ok (.invokestatic 29, 3) := by decide +kernel
theorem dL_act_134 : decode cL_act 134 = .ok (.ifCond .ne 92, 3) := by decide +kernel
theorem dL_act_137 : decode cL_act 137 = .ok (.iload_n 2, 1) := by decide +kernel
theorem dL_act_138 : decode cL_act 138 = .ok (.iconst 3, 1) := by decide +kernel
theorem dL_act_139 : decode cL_act 139 = .ok (.ishr, 1) := by decide +kernel
theorem dL_act_140 : decode cL_act 140 = .ok (.iconst 2, 1) := by decide +kernel
theorem dL_act_141 : decode cL_act 141 = .ok (.invokestatic 29, 3) := by decide +kernel
theorem dL_act_144 : decode cL_act 144 = .ok (.ifCond .ne 7, 3) := by decide +kernel
theorem dL_act_147 : decode cL_act 147 = .ok (.iconst 3, 1) := by decide +kernel
theorem dL_act_148 : decode cL_act 148 = .ok (.goto 4, 3) := by decide +kernel
theorem dL_act_151 : decode cL_act 151 = .ok (.iconst 5, 1) := by decide +kernel
theorem dL_act_152 : decode cL_act 152 = .ok (.istore 6, 2) := by decide +kernel
theorem dL_act_154 : decode cL_act 154 = .ok (.aload_n 1, 1) := by decide +kernel
theorem dL_act_155 : decode cL_act 155 = .ok (.invokevirtual 50, 3) := by decide +kernel
theorem dL_act_158 : decode cL_act 158 = .ok (.istore 7, 2) := by decide +kernel
theorem dL_act_160 : decode cL_act 160 = .ok (.iload 7, 2) := by decide +kernel
theorem dL_act_162 : decode cL_act 162 = .ok (.ifCond .eq 23, 3) := by decide +kernel
theorem dL_act_165 : decode cL_act 165 = .ok (.aload_n 1, 1) := by decide +kernel
theorem dL_act_166 : decode cL_act 166 = .ok (.iconst 1, 1) := by decide +kernel
theorem dL_act_167 : decode cL_act 167 = .ok (.putfield 54, 3) := by decide +kernel
theorem dL_act_170 : decode cL_act 170 = .ok (.aload_n 1, 1) := by decide +kernel
theorem dL_act_171 : decode cL_act 171 = .ok (.aload_n 1, 1) := by decide +kernel
theorem dL_act_172 : decode cL_act 172 = .ok (.getfield 58, 3) := by decide +kernel
theorem dL_act_175 : decode cL_act 175 = .ok (.iconst 0, 1) := by decide +kernel
theorem dL_act_176 : decode cL_act 176 = .ok (.aaload, 1) := by decide +kernel
theorem dL_act_177 : decode cL_act 177 = .ok (.iconst 0, 1) := by decide +kernel
theorem dL_act_178 : decode cL_act 178 = .ok (.iaload, 1) := by decide +kernel
theorem dL_act_179 : decode cL_act 179 = .ok (.iload 6, 2) := by decide +kernel
theorem dL_act_181 : decode cL_act 181 = .ok (.iadd, 1) := by decide +kernel
theorem dL_act_182 : decode cL_act 182 = .ok (.putfield 62, 3) := by decide +kernel
theorem dL_act_185 : decode cL_act 185 = .ok (.aload_n 0, 1) := by decide +kernel
theorem dL_act_186 : decode cL_act 186 = .ok (.iload 6, 2) := by decide +kernel
theorem dL_act_188 : decode cL_act 188 = .ok (.invokevirtual 65, 3) := by decide +kernel
theorem dL_act_191 : decode cL_act 191 = .ok (.istore 8, 2) := by decide +kernel
theorem dL_act_193 : decode cL_act 193 = .ok (.iload 7, 2) := by decide +kernel
theorem dL_act_195 : decode cL_act 195 = .ok (.ifCond .eq 16, 3) := by decide +kernel
theorem dL_act_198 : decode cL_act 198 = .ok (.iload 8, 2) := by decide +kernel
theorem dL_act_200 : decode cL_act 200 = .ok (.aload_n 1, 1) := by decide +kernel
theorem dL_act_201 : decode cL_act 201 = .ok (.getfield 62, 3) := by decide +kernel
theorem dL_act_204 : decode cL_act 204 = .ok (.if_icmp .ne 7, 3) := by decide +kernel
theorem dL_act_207 : decode cL_act 207 = .ok (.iconst 1, 1) := by decide +kernel
theorem dL_act_208 : decode cL_act 208 = .ok (.goto 4, 3) := by decide +kernel
theorem dL_act_211 : decode cL_act 211 = .ok (.iconst 0, 1) := by decide +kernel
theorem dL_act_212 : decode cL_act 212 = .ok (.ireturn, 1) := by decide +kernel
theorem dL_act_213 : decode cL_act 213 = .ok (.astore 8, 2) := by decide +kernel
theorem dL_act_215 : decode cL_act 215 = .ok (.iload 7, 2) := by decide +kernel
theorem dL_act_217 : decode cL_act 217 = .ok (.ifCond .ne 7, 3) := by decide +kernel
theorem dL_act_220 : decode cL_act 220 = .ok (.iconst 1, 1) := by decide +kernel
theorem dL_act_221 : decode cL_act 221 = .ok (.goto 4, 3) := by decide +kernel
theorem dL_act_224 : decode cL_act 224 = .ok (.iconst 0, 1) := by decide +kernel
theorem dL_act_225 : decode cL_act 225 = .ok (.ireturn, 1) := by decide +kernel
theorem dL_act_226 : decode cL_act 226 = .ok (.aload_n 0, 1) := by decide +kernel
theorem dL_act_227 : decode cL_act 227 = .ok (.iload_n 3, 1) := by decide +kernel
theorem dL_act_228 : decode cL_act 228 = .ok (.iload 4, 2) := by decide +kernel
theorem dL_act_230 : decode cL_act 230 = .ok (.iload 5, 2) := by decide +kernel
theorem dL_act_232 : decode cL_act 232 = .ok (.invokevirtual 70, 3) := by decide +kernel
theorem dL_act_235 : decode cL_act 235 = .ok (.aload_n 1, 1) := by decide +kernel
theorem dL_act_236 : decode cL_act 236 = .ok (.iload_n 3, 1) := by decide +kernel
theorem dL_act_237 : decode cL_act 237 = .ok (.iload 4, 2) := by decide +kernel
theorem dL_act_239 : decode cL_act 239 = .ok (.iload 5, 2) := by decide +kernel
theorem dL_act_241 : decode cL_act 241 = .ok (.invokevirtual 74, 3) := by decide +kernel
theorem dL_act_244 : decode cL_act 244 = .ok (.if_icmp .ne 7, 3) := by decide +kernel
theorem dL_act_247 : decode cL_act 247 = .ok (.iconst 1, 1) := by decide +kernel
theorem dL_act_248 : decode cL_act 248 = .ok (.goto 4, 3) := by decide +kernel
theorem dL_act_251 : decode cL_act 251 = .ok (.iconst 0, 1) := by decide +kernel
theorem dL_act_252 : decode cL_act 252 = .ok (.ireturn, 1) := by decide +kernel
theorem dL_act_253 : decode cL_act 253 = .ok (.iload_n 2, 1) := by decide +kernel
theorem dL_act_254 : decode cL_act 254 = .ok (.bipush 9, 2) := by decide +kernel
theorem dL_act_256 : decode cL_act 256 = .ok (.invokestatic 29, 3) := by decide +kernel
theorem dL_act_259 : decode cL_act 259 = .ok (.lookupswitch 69 #[(0, 25), (1, 42)], 25) := by decide +kernel
theorem dL_act_284 : decode cL_act 284 = .ok (.aload_n 0, 1) := by decide +kernel
theorem dL_act_285 : decode cL_act 285 = .ok (.invokevirtual 75, 3) := by decide +kernel
theorem dL_act_288 : decode cL_act 288 = .ok (.aload_n 1, 1) := by decide +kernel
theorem dL_act_289 : decode cL_act 289 = .ok (.invokevirtual 78, 3) := by decide +kernel
theorem dL_act_292 : decode cL_act 292 = .ok (.if_icmp .ne 7, 3) := by decide +kernel
theorem dL_act_295 : decode cL_act 295 = .ok (.iconst 1, 1) := by decide +kernel
theorem dL_act_296 : decode cL_act 296 = .ok (.goto 4, 3) := by decide +kernel
theorem dL_act_299 : decode cL_act 299 = .ok (.iconst 0, 1) := by decide +kernel
theorem dL_act_300 : decode cL_act 300 = .ok (.ireturn, 1) := by decide +kernel
theorem dL_act_301 : decode cL_act 301 = .ok (.iload_n 2, 1) := by decide +kernel
theorem dL_act_302 : decode cL_act 302 = .ok (.iconst 3, 1) := by decide +kernel
theorem dL_act_303 : decode cL_act 303 = .ok (.ishr, 1) := by decide +kernel
theorem dL_act_304 : decode cL_act 304 = .ok (.iconst 3, 1) := by decide +kernel
theorem dL_act_305 : decode cL_act 305 = .ok (.invokestatic 29, 3) := by decide +kernel
theorem dL_act_308 : decode cL_act 308 = .ok (.ifCond .gt 14, 3) := by decide +kernel
theorem dL_act_311 : decode cL_act 311 = .ok (.aload_n 0, 1) := by decide +kernel
theorem dL_act_312 : decode cL_act 312 = .ok (.invokevirtual 79, 3) := by decide +kernel
theorem dL_act_315 : decode cL_act 315 = .ok (.aload_n 1, 1) := by decide +kernel
theorem dL_act_316 : decode cL_act 316 = .ok (.invokevirtual 82, 3) := by decide +kernel
theorem dL_act_319 : decode cL_act 319 = .ok (.if_icmp .ne 7, 3) := by decide +kernel
theorem dL_act_322 : decode cL_act 322 = .ok (.iconst 1, 1) := by decide +kernel
theorem dL_act_323 : decode cL_act 323 = .ok (.goto 4, 3) := by decide +kernel
theorem dL_act_326 : decode cL_act 326 = .ok (.iconst 0, 1) := by decide +kernel
theorem dL_act_327 : decode cL_act 327 = .ok (.ireturn, 1) := by decide +kernel
theorem dL_act_328 : decode cL_act 328 = .ok (.aload_n 1, 1) := by decide +kernel
theorem dL_act_329 : decode cL_act 329 = .ok (.iload_n 2, 1) := by decide +kernel
theorem dL_act_330 : decode cL_act 330 = .ok (.iconst 1, 1) := by decide +kernel
theorem dL_act_331 : decode cL_act 331 = .ok (.ishr, 1) := by decide +kernel
theorem dL_act_332 : decode cL_act 332 = .ok (.invokestatic 83, 3) := by decide +kernel
theorem dL_act_335 : decode cL_act 335 = .ok (.istore 6, 2) := by decide +kernel
theorem dL_act_337 : decode cL_act 337 = .ok (.aload_n 0, 1) := by decide +kernel
theorem dL_act_338 : decode cL_act 338 = .ok (.iload 6, 2) := by decide +kernel
theorem dL_act_340 : decode cL_act 340 = .ok (.iload_n 3, 1) := by decide +kernel
theorem dL_act_341 : decode cL_act 341 = .ok (.iload 4, 2) := by decide +kernel
theorem dL_act_343 : decode cL_act 343 = .ok (.iload 5, 2) := by decide +kernel
theorem dL_act_345 : decode cL_act 345 = .ok (.invokevirtual 87, 3) := by decide +kernel
theorem dL_act_348 : decode cL_act 348 = .ok (.aload_n 1, 1) := by decide +kernel
theorem dL_act_349 : decode cL_act 349 = .ok (.iload 6, 2) := by decide +kernel
theorem dL_act_351 : decode cL_act 351 = .ok (.iload_n 3, 1) := by decide +kernel
theorem dL_act_352 : decode cL_act 352 = .ok (.iload 4, 2) := by decide +kernel
theorem dL_act_354 : decode cL_act 354 = .ok (.iload 5, 2) := by decide +kernel
theorem dL_act_356 : decode cL_act 356 = .ok (.invokevirtual 91, 3) := by decide +kernel
theorem dL_act_359 : decode cL_act 359 = .ok (.if_icmp .ne 7, 3) := by decide +kernel
theorem dL_act_362 : decode cL_act 362 = .ok (.iconst 1, 1) := by decide +kernel
theorem dL_act_363 : decode cL_act 363 = .ok (.goto 4, 3) := by decide +kernel
theorem dL_act_366 : decode cL_act 366 = .ok (.iconst 0, 1) := by decide +kernel
theorem dL_act_367 : decode cL_act 367 = .ok (.ireturn, 1) := by decide +kernel
theorem dL_law_0 : decode cL_law 0 = .ok (.new 44, 3) := by decide +kernel
theorem dL_law_3 : decode cL_law 3 = .ok (.dup, 1) := by decide +kernel
theorem dL_law_4 : decode cL_law 4 = .ok (.invokespecial 92, 3) := by decide +kernel
theorem dL_law_7 : decode cL_law 7 = .ok (.astore_n 1, 1) := by decide +kernel
theorem dL_law_8 : decode cL_law 8 = .ok (.new 10, 3) := by decide +kernel
theorem dL_law_11 : decode cL_law 11 = .ok (.dup, 1) := by decide +kernel
theorem dL_law_12 : decode cL_law 12 = .ok (.invokespecial 93, 3) := by decide +kernel
theorem dL_law_15 : decode cL_law 15 = .ok (.astore_n 2, 1) := by decide +kernel
theorem dL_law_16 : decode cL_law 16 = .ok (.iconst 0, 1) := by decide +kernel
theorem dL_law_17 : decode cL_law 17 = .ok (.istore_n 3, 1) := by decide +kernel
theorem dL_law_18 : decode cL_law 18 = .ok (.iconst 0, 1) := by decide +kernel
theorem dL_law_19 : decode cL_law 19 = .ok (.istore 4, 2) := by decide +kernel
theorem dL_law_21 : decode cL_law 21 = .ok (.iload 4, 2) := by decide +kernel
theorem dL_law_23 : decode cL_law 23 = .ok (.bipush 16, 2) := by decide +kernel
theorem dL_law_25 : decode cL_law 25 = .ok (.if_icmp .ge 998, 3) := by decide +kernel
theorem dL_law_28 : decode cL_law 28 = .ok (.aload_n 0, 1) := by decide +kernel
theorem dL_law_29 : decode cL_law 29 = .ok (.iload 4, 2) := by decide +kernel
theorem dL_law_31 : decode cL_law 31 = .ok (.invokestatic 94, 3) := by decide +kernel
theorem dL_law_34 : decode cL_law 34 = .ok (.bipush 59, 2) := by decide +kernel
theorem dL_law_36 : decode cL_law 36 = .ok (.iload 4, 2) := by decide +kernel
theorem dL_law_38 : decode cL_law 38 = .ok (.imul, 1) := by decide +kernel
theorem dL_law_39 : decode cL_law 39 = .ok (.iadd, 1) := by decide +kernel
theorem dL_law_40 : decode cL_law 40 = .ok (.istore 5, 2) := by decide +kernel
theorem dL_law_42 : decode cL_law 42 = .ok (.aload_n 1, 1) := by decide +kernel
theorem dL_law_43 : decode cL_law 43 = .ok (.iconst 3, 1) := by decide +kernel
theorem dL_law_44 : decode cL_law 44 = .ok (.invokevirtual 98, 3) := by decide +kernel
theorem dL_law_47 : decode cL_law 47 = .ok (.istore 6, 2) := by decide +kernel
theorem dL_law_49 : decode cL_law 49 = .ok (.aload_n 1, 1) := by decide +kernel
theorem dL_law_50 : decode cL_law 50 = .ok (.iconst 2, 1) := by decide +kernel
theorem dL_law_51 : decode cL_law 51 = .ok (.invokevirtual 98, 3) := by decide +kernel
theorem dL_law_54 : decode cL_law 54 = .ok (.istore 7, 2) := by decide +kernel
theorem dL_law_56 : decode cL_law 56 = .ok (.aload_n 1, 1) := by decide +kernel
theorem dL_law_57 : decode cL_law 57 = .ok (.iconst 1, 1) := by decide +kernel
theorem dL_law_58 : decode cL_law 58 = .ok (.invokevirtual 98, 3) := by decide +kernel
theorem dL_law_61 : decode cL_law 61 = .ok (.istore 8, 2) := by decide +kernel
theorem dL_law_63 : decode cL_law 63 = .ok (.aload_n 1, 1) := by decide +kernel
theorem dL_law_64 : decode cL_law 64 = .ok (.iconst 0, 1) := by decide +kernel
theorem dL_law_65 : decode cL_law 65 = .ok (.iconst 3, 1) := by decide +kernel
theorem dL_law_66 : decode cL_law 66 = .ok (.invokevirtual 101, 3) := by decide +kernel
theorem dL_law_69 : decode cL_law 69 = .ok (.aload_n 1, 1) := by decide +kernel
theorem dL_law_70 : decode cL_law 70 = .ok (.iconst 1, 1) := by decide +kernel
theorem dL_law_71 : decode cL_law 71 = .ok (.iconst 3, 1) := by decide +kernel
theorem dL_law_72 : decode cL_law 72 = .ok (.invokevirtual 101, 3) := by decide +kernel
theorem dL_law_75 : decode cL_law 75 = .ok (.iadd, 1) := by decide +kernel
theorem dL_law_76 : decode cL_law 76 = .ok (.istore 9, 2) := by decide +kernel
theorem dL_law_78 : decode cL_law 78 = .ok (.aload_n 2, 1) := by decide +kernel
theorem dL_law_79 : decode cL_law 79 = .ok (.invokevirtual 40, 3) := by decide +kernel
theorem dL_law_82 : decode cL_law 82 = .ok (.ifCond .lt 7, 3) := by decide +kernel
theorem dL_law_85 : decode cL_law 85 = .ok (.iconst 1, 1) := by decide +kernel
theorem dL_law_86 : decode cL_law 86 = .ok (.goto 4, 3) := by decide +kernel
theorem dL_law_89 : decode cL_law 89 = .ok (.iconst 0, 1) := by decide +kernel
theorem dL_law_90 : decode cL_law 90 = .ok (.istore 10, 2) := by decide +kernel
theorem dL_law_92 : decode cL_law 92 = .ok (.aload_n 1, 1) := by decide +kernel
theorem dL_law_93 : decode cL_law 93 = .ok (.aload_n 2, 1) := by decide +kernel
theorem dL_law_94 : decode cL_law 94 = .ok (.iload 5, 2) := by decide +kernel
theorem dL_law_96 : decode cL_law 96 = .ok (.invokestatic 104, 3) := by decide +kernel
theorem dL_law_99 : decode cL_law 99 = .ok (.ifCond .ne 5, 3) := by decide +kernel
theorem dL_law_102 : decode cL_law 102 = .ok (.iconst 0, 1) := by decide +kernel
theorem dL_law_103 : decode cL_law 103 = .ok (.ireturn, 1) := by decide +kernel
theorem dL_law_104 : decode cL_law 104 = .ok (.aload_n 1, 1) := by decide +kernel
theorem dL_law_105 : decode cL_law 105 = .ok (.invokevirtual 108, 3) := by decide +kernel
theorem dL_law_108 : decode cL_law 108 = .ok (.lstore 11, 2) := by decide +kernel
theorem dL_law_110 : decode cL_law 110 = .ok (.iload 10, 2) := by decide +kernel
theorem dL_law_112 : decode cL_law 112 = .ok (.ifCond .ne 54, 3) := by decide +kernel
theorem dL_law_115 : decode cL_law 115 = .ok (.aload_n 1, 1) := by decide +kernel
theorem dL_law_116 : decode cL_law 116 = .ok (.iconst 0, 1) := by decide +kernel
theorem dL_law_117 : decode cL_law 117 = .ok (.iconst 3, 1) := by decide +kernel
theorem dL_law_118 : decode cL_law 118 = .ok (.invokevirtual 101, 3) := by decide +kernel
theorem dL_law_121 : decode cL_law 121 = .ok (.aload_n 1, 1) := by decide +kernel
theorem dL_law_122 : decode cL_law 122 = .ok (.iconst 1, 1) := by decide +kernel
theorem dL_law_123 : decode cL_law 123 = .ok (.iconst 3, 1) := by decide +kernel
theorem dL_law_124 : decode cL_law 124 = .ok (.invokevirtual 101, 3) := by decide +kernel
theorem dL_law_127 : decode cL_law 127 = .ok (.iadd, 1) := by decide +kernel
theorem dL_law_128 : decode cL_law 128 = .ok (.iload 9, 2) := by decide +kernel
theorem dL_law_130 : decode cL_law 130 = .ok (.iconst 1, 1) := by decide +kernel
theorem dL_law_131 : decode cL_law 131 = .ok (.iadd, 1) := by decide +kernel
theorem dL_law_132 : decode cL_law 132 = .ok (.if_icmp .ne 34, 3) := by decide +kernel
theorem dL_law_135 : decode cL_law 135 = .ok (.iload 8, 2) := by decide +kernel
theorem dL_law_137 : decode cL_law 137 = .ok (.ifCond .lt 29, 3) := by decide +kernel
theorem dL_law_140 : decode cL_law 140 = .ok (.aload_n 1, 1) := by decide +kernel
theorem dL_law_141 : decode cL_law 141 = .ok (.iconst 2, 1) := by decide +kernel
theorem dL_law_142 : decode cL_law 142 = .ok (.invokevirtual 98, 3) := by decide +kernel
theorem dL_law_145 : decode cL_law 145 = .ok (.iload 7, 2) := by decide +kernel
theorem dL_law_147 : decode cL_law 147 = .ok (.iconst 1, 1) := by decide +kernel
theorem dL_law_148 : decode cL_law 148 = .ok (.iadd, 1) := by decide +kernel
theorem dL_law_149 : decode cL_law 149 = .ok (.if_icmp .ne 15, 3) := by decide +kernel
theorem dL_law_152 : decode cL_law 152 = .ok (.aload_n 1, 1) := by decide +kernel
theorem dL_law_153 : decode cL_law 153 = .ok (.iconst 1, 1) := by decide +kernel
theorem dL_law_154 : decode cL_law 154 = .ok (.invokevirtual 98, 3) := by decide +kernel
theorem dL_law_157 : decode cL_law 157 = .ok (.iconst 1, 1) := by decide +kernel
theorem dL_law_158 : decode cL_law 158 = .ok (.iload 8, 2) := by decide +kernel
theorem dL_law_160 : decode cL_law 160 = .ok (.isub, 1) := by decide +kernel
theorem dL_law_161 : decode cL_law 161 = .ok (.if_icmp .eq 5, 3) := by decide +kernel
theorem dL_law_164 : decode cL_law 164 = .ok (.iconst 0, 1) := by decide +kernel
theorem dL_law_165 : decode cL_law 165 = .ok (.ireturn, 1) := by decide +kernel
theorem dL_law_166 : decode cL_law 166 = .ok (.aload_n 1, 1) := by decide +kernel
theorem dL_law_167 : decode cL_law 167 = .ok (.iconst 3, 1) := by decide +kernel
theorem dL_law_168 : decode cL_law 168 = .ok (.invokevirtual 98, 3) := by decide +kernel
theorem dL_law_171 : decode cL_law 171 = .ok (.iload 6, 2) := by decide +kernel
theorem dL_law_173 : decode cL_law 173 = .ok (.if_icmp .lt 15, 3) := by decide +kernel
theorem dL_law_176 : decode cL_law 176 = .ok (.aload_n 1, 1) := by decide +kernel
theorem dL_law_177 : decode cL_law 177 = .ok (.iconst 3, 1) := by decide +kernel
theorem dL_law_178 : decode cL_law 178 = .ok (.invokevirtual 98, 3) := by decide +kernel
theorem dL_law_181 : decode cL_law 181 = .ok (.iload 6, 2) := by decide +kernel
theorem dL_law_183 : decode cL_law 183 = .ok (.iconst 1, 1) := by decide +kernel
theorem dL_law_184 : decode cL_law 184 = .ok (.iadd, 1) := by decide +kernel
theorem dL_law_185 : decode cL_law 185 = .ok (.if_icmp .le 5, 3) := by decide +kernel
theorem dL_law_188 : decode cL_law 188 = .ok (.iconst 0, 1) := by decide +kernel
theorem dL_law_189 : decode cL_law 189 = .ok (.ireturn, 1) := by decide +kernel
theorem dL_law_190 : decode cL_law 190 = .ok (.aload_n 1, 1) := by decide +kernel
theorem dL_law_191 : decode cL_law 191 = .ok (.iconst 3, 1) := by decide +kernel
theorem dL_law_192 : decode cL_law 192 = .ok (.invokevirtual 98, 3) := by decide +kernel
theorem dL_law_195 : decode cL_law 195 = .ok (.istore_n 3, 1) := by decide +kernel
theorem dL_law_196 : decode cL_law 196 = .ok (.aload_n 1, 1) := by decide +kernel
theorem dL_law_197 : decode cL_law 197 = .ok (.iconst 0, 1) := by decide +kernel
theorem dL_law_198 : decode cL_law 198 = .ok (.iconst 2, 1) := by decide +kernel
theorem dL_law_199 : decode cL_law 199 = .ok (.invokevirtual 101, 3) := by decide +kernel
theorem dL_law_202 : decode cL_law 202 = .ok (.aload_n 1, 1) := by decide +kernel
theorem dL_law_203 : decode cL_law 203 = .ok (.iconst 1, 1) := by decide +kernel
theorem dL_law_204 : decode cL_law 204 = .ok (.iconst 2, 1) := by decide +kernel
theorem dL_law_205 : decode cL_law 205 = .ok (.invokevirtual 101, 3) := by decide +kernel
theorem dL_law_208 : decode cL_law 208 = .ok (.iadd, 1) := by decide +kernel
theorem dL_law_209 : decode cL_law 209 = .ok (.iload_n 3, 1) := by decide +kernel
theorem dL_law_210 : decode cL_law 210 = .ok (.if_icmp .gt 25, 3) := by decide +kernel
theorem dL_law_213 : decode cL_law 213 = .ok (.aload_n 1, 1) := by decide +kernel
theorem dL_law_214 : decode cL_law 214 = .ok (.iconst 0, 1) := by decide +kernel
theorem dL_law_215 : decode cL_law 215 = .ok (.iconst 1, 1) := by decide +kernel
theorem dL_law_216 : decode cL_law 216 = .ok (.invokevirtual 101, 3) := by decide +kernel
theorem dL_law_219 : decode cL_law 219 = .ok (.aload_n 1, 1) := by decide +kernel
theorem dL_law_220 : decode cL_law 220 = .ok (.iconst 1, 1) := by decide +kernel
theorem dL_law_221 : decode cL_law 221 = .ok (.iconst 1, 1) := by decide +kernel
theorem dL_law_222 : decode cL_law 222 = .ok (.invokevirtual 101, 3) := by decide +kernel
theorem dL_law_225 : decode cL_law 225 = .ok (.iadd, 1) := by decide +kernel
theorem dL_law_226 : decode cL_law 226 = .ok (.aload_n 1, 1) := by decide +kernel
theorem dL_law_227 : decode cL_law 227 = .ok (.bipush 8, 2) := by decide +kernel
theorem dL_law_229 : decode cL_law 229 = .ok (.invokevirtual 98, 3) := by decide +kernel
theorem dL_law_232 : decode cL_law 232 = .ok (.if_icmp .le 5, 3) := by decide +kernel
theorem dL_law_235 : decode cL_law 235 = .ok (.iconst 0, 1) := by decide +kernel
theorem dL_law_236 : decode cL_law 236 = .ok (.ireturn, 1) := by decide +kernel
theorem dL_law_237 : decode cL_law 237 = .ok (.iconst 0, 1) := by decide +kernel
theorem dL_law_238 : decode cL_law 238 = .ok (.istore 13, 2) := by decide +kernel
theorem dL_law_240 : decode cL_law 240 = .ok (.iload 13, 2) := by decide +kernel
theorem dL_law_242 : decode cL_law 242 = .ok (.iconst 2, 1) := by decide +kernel
theorem dL_law_243 : decode cL_law 243 = .ok (.if_icmp .ge 92, 3) := by decide +kernel
theorem dL_law_246 : decode cL_law 246 = .ok (.aload_n 1, 1) := by decide +kernel
theorem dL_law_247 : decode cL_law 247 = .ok (.iload 13, 2) := by decide +kernel
theorem dL_law_249 : decode cL_law 249 = .ok (.iconst 0, 1) := by decide +kernel
theorem dL_law_250 : decode cL_law 250 = .ok (.invokevirtual 101, 3) := by decide +kernel
theorem dL_law_253 : decode cL_law 253 = .ok (.ifCond .lt 74, 3) := by decide +kernel
theorem dL_law_256 : decode cL_law 256 = .ok (.aload_n 1, 1) := by decide +kernel
theorem dL_law_257 : decode cL_law 257 = .ok (.iload 13, 2) := by decide +kernel
theorem dL_law_259 : decode cL_law 259 = .ok (.iconst 0, 1) := by decide +kernel
theorem dL_law_260 : decode cL_law 260 = .ok (.invokevirtual 101, 3) := by decide +kernel
theorem dL_law_263 : decode cL_law 263 = .ok (.aload_n 1, 1) := by decide +kernel
theorem dL_law_264 : decode cL_law 264 = .ok (.iconst 5, 1) := by decide +kernel
theorem dL_law_265 : decode cL_law 265 = .ok (.invokevirtual 98, 3) := by decide +kernel
theorem dL_law_268 : decode cL_law 268 = .ok (.if_icmp .ge 59, 3) := by decide +kernel
theorem dL_law_271 : decode cL_law 271 = .ok (.aload_n 1, 1) := by decide +kernel
theorem dL_law_272 : decode cL_law 272 = .ok (.iload 13, 2) := by decide +kernel
theorem dL_law_274 : decode cL_law 274 = .ok (.iconst 1, 1) := by decide +kernel
theorem dL_law_275 : decode cL_law 275 = .ok (.invokevirtual 101, 3) := by decide +kernel
theorem dL_law_278 : decode cL_law 278 = .ok (.ifCond .lt 49, 3) := by decide +kernel
theorem dL_law_281 : decode cL_law 281 = .ok (.aload_n 1, 1) := by decide +kernel
theorem dL_law_282 : decode cL_law 282 = .ok (.iload 13, 2) := by decide +kernel
theorem dL_law_284 : decode cL_law 284 = .ok (.iconst 1, 1) := by decide +kernel
theorem dL_law_285 : decode cL_law 285 = .ok (.invokevirtual 101, 3) := by decide +kernel
theorem dL_law_288 : decode cL_law 288 = .ok (.iconst 3, 1) := by decide +kernel
theorem dL_law_289 : decode cL_law 289 = .ok (.if_icmp .gt 38, 3) := by decide +kernel
theorem dL_law_292 : decode cL_law 292 = .ok (.aload_n 1, 1) := by decide +kernel
theorem dL_law_293 : decode cL_law 293 = .ok (.bipush 7, 2) := by decide +kernel
theorem dL_law_295 : decode cL_law 295 = .ok (.invokevirtual 98, 3) := by decide +kernel
theorem dL_law_298 : decode cL_law 298 = .ok (.iload 13, 2) := by decide +kernel
theorem dL_law_300 : decode cL_law 300 = .ok (.if_icmp .ne 7, 3) := by decide +kernel
theorem dL_law_303 : decode cL_law 303 = .ok (.iconst 1, 1) := by decide +kernel
theorem dL_law_304 : decode cL_law 304 = .ok (.goto 4, 3) := by decide +kernel
theorem dL_law_307 : decode cL_law 307 = .ok (.iconst 0, 1) := by decide +kernel
theorem dL_law_308 : decode cL_law 308 = .ok (.aload_n 1, 1) := by decide +kernel
theorem dL_law_309 : decode cL_law 309 = .ok (.iload 13, 2) := by decide +kernel
theorem dL_law_311 : decode cL_law 311 = .ok (.iconst 1, 1) := by decide +kernel
theorem dL_law_312 : decode cL_law 312 = .ok (.invokevirtual 101, 3) := by decide +kernel
theorem dL_law_315 : decode cL_law 315 = .ok (.iconst 3, 1) := by decide +kernel
theorem dL_law_316 : decode cL_law 316 = .ok (.if_icmp .ne 7, 3) := by decide +kernel
theorem dL_law_319 : decode cL_law 319 = .ok (.iconst 1, 1) := by decide +kernel
theorem dL_law_320 : decode cL_law 320 = .ok (.goto 4, 3) := by decide +kernel
theorem dL_law_323 : decode cL_law 323 = .ok (.iconst 0, 1) := by decide +kernel
theorem dL_law_324 : decode cL_law 324 = .ok (.if_icmp .eq 5, 3) := by decide +kernel
theorem dL_law_327 : decode cL_law 327 = .ok (.iconst 0, 1) := by decide +kernel
theorem dL_law_328 : decode cL_law 328 = .ok (.ireturn, 1) := by decide +kernel
theorem dL_law_329 : decode cL_law 329 = .ok (.iinc 13 1, 3) := by decide +kernel
theorem dL_law_332 : decode cL_law 332 = .ok (.goto (-92), 3) := by decide +kernel
theorem dL_law_335 : decode cL_law 335 = .ok (.aload_n 1, 1) := by decide +kernel
theorem dL_law_336 : decode cL_law 336 = .ok (.iconst 5, 1) := by decide +kernel
theorem dL_law_337 : decode cL_law 337 = .ok (.invokevirtual 98, 3) := by decide +kernel
theorem dL_law_340 : decode cL_law 340 = .ok (.bipush 12, 2) := by decide +kernel
theorem dL_law_342 : decode cL_law 342 = .ok (.if_icmp .lt 48, 3) := by decide +kernel
theorem dL_law_345 : decode cL_law 345 = .ok (.aload_n 1, 1) := by decide +kernel
theorem dL_law_346 : decode cL_law 346 = .ok (.iconst 5, 1) := by decide +kernel
theorem dL_law_347 : decode cL_law 347 = .ok (.invokevirtual 98, 3) := by decide +kernel
theorem dL_law_350 : decode cL_law 350 = .ok (.bipush 16, 2) := by decide +kernel
theorem dL_law_352 : decode cL_law 352 = .ok (.if_icmp .gt 38, 3) := by decide +kernel
theorem dL_law_355 : decode cL_law 355 = .ok (.aload_n 1, 1) := by decide +kernel
theorem dL_law_356 : decode cL_law 356 = .ok (.bipush 6, 2) := by decide +kernel
theorem dL_law_358 : decode cL_law 358 = .ok (.invokevirtual 98, 3) := by decide +kernel
theorem dL_law_361 : decode cL_law 361 = .ok (.iconst 1, 1) := by decide +kernel
theorem dL_law_362 : decode cL_law 362 = .ok (.if_icmp .ne 30, 3) := by decide +kernel
theorem dL_law_365 : decode cL_law 365 = .ok (.aload_n 1, 1) := by decide +kernel
theorem dL_law_366 : decode cL_law 366 = .ok (.iconst 0, 1) := by decide +kernel
theorem dL_law_367 : decode cL_law 367 = .ok (.iconst 0, 1) := by decide +kernel
theorem dL_law_368 : decode cL_law 368 = .ok (.invokevirtual 101, 3) := by decide +kernel
theorem dL_law_371 : decode cL_law 371 = .ok (.aload_n 1, 1) := by decide +kernel
theorem dL_law_372 : decode cL_law 372 = .ok (.iconst 1, 1) := by decide +kernel
theorem dL_law_373 : decode cL_law 373 = .ok (.iconst 0, 1) := by decide +kernel
theorem dL_law_374 : decode cL_law 374 = .ok (.invokevirtual 101, 3) := by decide +kernel
theorem dL_law_377 : decode cL_law 377 = .ok (.if_icmp .ne 13, 3) := by decide +kernel
theorem dL_law_380 : decode cL_law 380 = .ok (.aload_n 1, 1) := by decide +kernel
theorem dL_law_381 : decode cL_law 381 = .ok (.iconst 5, 1) := by decide +kernel
theorem dL_law_382 : decode cL_law 382 = .ok (.invokevirtual 98, 3) := by decide +kernel
theorem dL_law_385 : decode cL_law 385 = .ok (.bipush 12, 2) := by decide +kernel
theorem dL_law_387 : decode cL_law 387 = .ok (.if_icmp .eq 5, 3) := by decide +kernel
theorem dL_law_390 : decode cL_law 390 = .ok (.iconst 0, 1) := by decide +kernel
theorem dL_law_391 : decode cL_law 391 = .ok (.ireturn, 1) := by decide +kernel
theorem dL_law_392 : decode cL_law 392 = .ok (.aload_n 1, 1) := by decide +kernel
theorem dL_law_393 : decode cL_law 393 = .ok (.iconst 0, 1) := by decide +kernel
theorem dL_law_394 : decode cL_law 394 = .ok (.invokevirtual 112, 3) := by decide +kernel
theorem dL_law_397 : decode cL_law 397 = .ok (.istore 13, 2) := by decide +kernel
theorem dL_law_399 : decode cL_law 399 = .ok (.aload_n 1, 1) := by decide +kernel
theorem dL_law_400 : decode cL_law 400 = .ok (.iconst 1, 1) := by decide +kernel
theorem dL_law_401 : decode cL_law 401 = .ok (.invokevirtual 112, 3) := by decide +kernel
theorem dL_law_404 : decode cL_law 404 = .ok (.istore 14, 2) := by decide +kernel
theorem dL_law_406 : decode cL_law 406 = .ok (.aload_n 1, 1) := by decide +kernel
theorem dL_law_407 : decode cL_law 407 = .ok (.iconst 1, 1) := by decide +kernel
theorem dL_law_408 : decode cL_law 408 = .ok (.invokevirtual 98, 3) := by decide +kernel
theorem dL_law_411 : decode cL_law 411 = .ok (.ifCond .ge 7, 3) := by decide +kernel
theorem dL_law_414 : decode cL_law 414 = .ok (.iconst 1, 1) := by decide +kernel
theorem dL_law_415 : decode cL_law 415 = .ok (.goto 4, 3) := by decide +kernel
theorem dL_law_418 : decode cL_law 418 = .ok (.iconst 0, 1) := by decide +kernel
theorem dL_law_419 : decode cL_law 419 = .ok (.iload 13, 2) := by decide +kernel
theorem dL_law_421 : decode cL_law 421 = .ok (.ifCond .ne 7, 3) := by decide +kernel
theorem dL_law_424 : decode cL_law 424 = .ok (.iconst 1, 1) := by decide +kernel
theorem dL_law_425 : decode cL_law 425 = .ok (.goto 4, 3) := by decide +kernel
theorem dL_law_428 : decode cL_law 428 = .ok (.iconst 0, 1) := by decide +kernel
theorem dL_law_429 : decode cL_law 429 = .ok (.if_icmp .ne 32, 3) := by decide +kernel
theorem dL_law_432 : decode cL_law 432 = .ok (.aload_n 1, 1) := by decide +kernel
theorem dL_law_433 : decode cL_law 433 = .ok (.iconst 1, 1) := by decide +kernel
theorem dL_law_434 : decode cL_law 434 = .ok (.invokevirtual 98, 3) := by decide +kernel
theorem dL_law_437 : decode cL_law 437 = .ok (.ifCond .ge 7, 3) := by decide +kernel
theorem dL_law_440 : decode cL_law 440 = .ok (.iconst 1, 1) := by decide +kernel
theorem dL_law_441 : decode cL_law 441 = .ok (.goto 4, 3) := by decide +kernel
theorem dL_law_444 : decode cL_law 444 = .ok (.iconst 0, 1) := by decide +kernel
theorem dL_law_445 : decode cL_law 445 = .ok (.aload_n 1, 1) := by decide +kernel
theorem dL_law_446 : decode cL_law 446 = .ok (.iconst 2, 1) := by decide +kernel
theorem dL_law_447 : decode cL_law 447 = .ok (.invokevirtual 98, 3) := by decide +kernel
theorem dL_law_450 : decode cL_law 450 = .ok (.ifCond .ne 7, 3) := by decide +kernel
theorem dL_law_453 : decode cL_law 453 = .ok (.iconst 1, 1) := by decide +kernel
theorem dL_law_454 : decode cL_law 454 = .ok (.goto 4, 3) := by decide +kernel
theorem dL_law_457 : decode cL_law 457 = .ok (.iconst 0, 1) := by decide +kernel
theorem dL_law_458 : decode cL_law 458 = .ok (.if_icmp .eq 5, 3) := by decide +kernel
theorem dL_law_461 : decode cL_law 461 = .ok (.iconst 0, 1) := by decide +kernel
theorem dL_law_462 : decode cL_law 462 = .ok (.ireturn, 1) := by decide +kernel
theorem dL_law_463 : decode cL_law 463 = .ok (.iload 13, 2) := by decide +kernel
theorem dL_law_465 : decode cL_law 465 = .ok (.ifCond .le 435, 3) := by decide +kernel
theorem dL_law_468 : decode cL_law 468 = .ok (.iconst 0, 1) := by decide +kernel
theorem dL_law_469 : decode cL_law 469 = .ok (.istore 15, 2) := by decide +kernel
theorem dL_law_471 : decode cL_law 471 = .ok (.iconst 0, 1) := by decide +kernel
theorem dL_law_472 : decode cL_law 472 = .ok (.istore 16, 2) := by decide +kernel
theorem dL_law_474 : decode cL_law 474 = .ok (.iconst 0, 1) := by decide +kernel
theorem dL_law_475 : decode cL_law 475 = .ok (.istore 17, 2) := by decide +kernel
theorem dL_law_477 : decode cL_law 477 = .ok (.aload_n 1, 1) := by decide +kernel
theorem dL_law_478 : decode cL_law 478 = .ok (.iconst 1, 1) := by decide +kernel
theorem dL_law_479 : decode cL_law 479 = .ok (.invokevirtual 115, 3) := by decide +kernel
theorem dL_law_482 : decode cL_law 482 = .ok (.istore 18, 2) := by decide +kernel
theorem dL_law_484 : decode cL_law 484 = .ok (.iconst 0, 1) := by decide +kernel
theorem dL_law_485 : decode cL_law 485 = .ok (.istore 19, 2) := by decide +kernel
theorem dL_law_487 : decode cL_law 487 = .ok (.iload 19, 2) := by decide +kernel
theorem dL_law_489 : decode cL_law 489 = .ok (.bipush 60, 2) := by decide +kernel
theorem dL_law_491 : decode cL_law 491 = .ok (.if_icmp .gt 341, 3) := by decide +kernel
theorem dL_law_494 : decode cL_law 494 = .ok (.iload 19, 2) := by decide +kernel
theorem dL_law_496 : decode cL_law 496 = .ok (.iload 14, 2) := by decide +kernel
theorem dL_law_498 : decode cL_law 498 = .ok (.if_icmp .lt 7, 3) := by decide +kernel
theorem dL_law_501 : decode cL_law 501 = .ok (.iconst 1, 1) := by decide +kernel
theorem dL_law_502 : decode cL_law 502 = .ok (.goto 4, 3) := by decide +kernel
theorem dL_law_505 : decode cL_law 505 = .ok (.iconst 0, 1) := by decide +kernel
theorem dL_law_506 : decode cL_law 506 = .ok (.istore 20, 2) := by decide +kernel
theorem dL_law_508 : decode cL_law 508 = .ok (.aload_n 1, 1) := by decide +kernel
theorem dL_law_509 : decode cL_law 509 = .ok (.iload 19, 2) := by decide +kernel
theorem dL_law_511 : decode cL_law 511 = .ok (.iconst 2, 1) := by decide +kernel
theorem dL_law_512 : decode cL_law 512 = .ok (.invokevirtual 117, 3) := by decide +kernel
theorem dL_law_515 : decode cL_law 515 = .ok (.bipush (-99), 2) := by decide +kernel
theorem dL_law_517 : decode cL_law 517 = .ok (.if_icmp .ne 7, 3) := by decide +kernel
theorem dL_law_520 : decode cL_law 520 = .ok (.iconst 1, 1) := by decide +kernel
theorem dL_law_521 : decode cL_law 521 = .ok (.goto 4, 3) := by decide +kernel
theorem dL_law_524 : decode cL_law 524 = .ok (.iconst 0, 1) := by decide +kernel
theorem dL_law_525 : decode cL_law 525 = .ok (.iload 20, 2) := by decide +kernel
theorem dL_law_527 : decode cL_law 527 = .ok (.if_icmp .eq 5, 3) := by decide +kernel
theorem dL_law_530 : decode cL_law 530 = .ok (.iconst 0, 1) := by decide +kernel
theorem dL_law_531 : decode cL_law 531 = .ok (.ireturn, 1) := by decide +kernel
theorem dL_law_532 : decode cL_law 532 = .ok (.iload 20, 2) := by decide +kernel
theorem dL_law_534 : decode cL_law 534 = .ok (.ifCond .eq 6, 3) := by decide +kernel
theorem dL_law_537 : decode cL_law 537 = .ok (.goto 289, 3) := by decide +kernel
theorem dL_law_540 : decode cL_law 540 = .ok (.aload_n 1, 1) := by decide +kernel
theorem dL_law_541 : decode cL_law 541 = .ok (.iload 19, 2) := by decide +kernel
theorem dL_law_543 : decode cL_law 543 = .ok (.iconst 0, 1) := by decide +kernel
theorem dL_law_544 : decode cL_law 544 = .ok (.invokevirtual 117, 3) := by decide +kernel
theorem dL_law_547 : decode cL_law 547 = .ok (.istore 21, 2) := by decide +kernel
theorem dL_law_549 : decode cL_law 549 = .ok (.aload_n 1, 1) := by decide +kernel
theorem dL_law_550 : decode cL_law 550 = .ok (.iload 19, 2) := by decide +kernel
theorem dL_law_552 : decode cL_law 552 = .ok (.iconst 1, 1) := by decide +kernel
theorem dL_law_553 : decode cL_law 553 = .ok (.invokevirtual 117, 3) := by decide +kernel
theorem dL_law_556 : decode cL_law 556 = .ok (.istore 22, 2) := by decide +kernel
theorem dL_law_558 : decode cL_law 558 = .ok (.iload 21, 2) := by decide +kernel
theorem dL_law_560 : decode cL_law 560 = .ok (.ifCond .lt 106, 3) := by decide +kernel
theorem dL_law_563 : decode cL_law 563 = .ok (.iload 21, 2) := by decide +kernel
theorem dL_law_565 : decode cL_law 565 = .ok (.bipush 11, 2) := by decide +kernel
theorem dL_law_567 : decode cL_law 567 = .ok (.if_icmp .gt 99, 3) := by decide +kernel
theorem dL_law_570 : decode cL_law 570 = .ok (.iload 22, 2) := by decide +kernel
theorem dL_law_572 : decode cL_law 572 = .ok (.ifCond .lt 94, 3) := by decide +kernel
theorem dL_law_575 : decode cL_law 575 = .ok (.iload 22, 2) := by decide +kernel
theorem dL_law_577 : decode cL_law 577 = .ok (.bipush 29, 2) := by decide +kernel
theorem dL_law_579 : decode cL_law 579 = .ok (.if_icmp .gt 87, 3) := by decide +kernel
theorem dL_law_582 : decode cL_law 582 = .ok (.iload 21, 2) := by decide +kernel
theorem dL_law_584 : decode cL_law 584 = .ok (.iconst 2, 1) := by decide +kernel
theorem dL_law_585 : decode cL_law 585 = .ok (.if_icmp .ge 17, 3) := by decide +kernel
theorem dL_law_588 : decode cL_law 588 = .ok (.iload 22, 2) := by decide +kernel
theorem dL_law_590 : decode cL_law 590 = .ok (.bipush 9, 2) := by decide +kernel
theorem dL_law_592 : decode cL_law 592 = .ok (.if_icmp .le 10, 3) := by decide +kernel
theorem dL_law_595 : decode cL_law 595 = .ok (.iload 22, 2) := by decide +kernel
theorem dL_law_597 : decode cL_law 597 = .ok (.bipush 13, 2) := by decide +kernel
theorem dL_law_599 : decode cL_law 599 = .ok (.if_icmp .lt 67, 3) := by decide +kernel
theorem dL_law_602 : decode cL_law 602 = .ok (.aload_n 1, 1) := by decide +kernel
theorem dL_law_603 : decode cL_law 603 = .ok (.iload 19, 2) := by decide +kernel
theorem dL_law_605 : decode cL_law 605 = .ok (.iconst 2, 1) := by decide +kernel
theorem dL_law_606 : decode cL_law 606 = .ok (.invokevirtual 117, 3) := by decide +kernel
theorem dL_law_609 : decode cL_law 609 = .ok (.ifCond .lt 57, 3) := by decide +kernel
theorem dL_law_612 : decode cL_law 612 = .ok (.iload 22, 2) := by decide +kernel
theorem dL_law_614 : decode cL_law 614 = .ok (.iload 18, 2) := by decide +kernel
theorem dL_law_616 : decode cL_law 616 = .ok (.isub, 1) := by decide +kernel
theorem dL_law_617 : decode cL_law 617 = .ok (.invokestatic 120, 3) := by decide +kernel
theorem dL_law_620 : decode cL_law 620 = .ok (.iconst 2, 1) := by decide +kernel
theorem dL_law_621 : decode cL_law 621 = .ok (.if_icmp .gt 45, 3) := by decide +kernel
theorem dL_law_624 : decode cL_law 624 = .ok (.aload_n 1, 1) := by decide +kernel
theorem dL_law_625 : decode cL_law 625 = .ok (.iload 19, 2) := by decide +kernel
theorem dL_law_627 : decode cL_law 627 = .ok (.iconst 3, 1) := by decide +kernel
theorem dL_law_628 : decode cL_law 628 = .ok (.invokevirtual 117, 3) := by decide +kernel
theorem dL_law_631 : decode cL_law 631 = .ok (.invokestatic 120, 3) := by decide +kernel
theorem dL_law_634 : decode cL_law 634 = .ok (.aload_n 1, 1) := by decide +kernel
theorem dL_law_635 : decode cL_law 635 = .ok (.iconst 3, 1) := by decide +kernel
theorem dL_law_636 : decode cL_law 636 = .ok (.invokevirtual 115, 3) := by decide +kernel
theorem dL_law_639 : decode cL_law 639 = .ok (.invokestatic 120, 3) := by decide +kernel
theorem dL_law_642 : decode cL_law 642 = .ok (.if_icmp .ne 24, 3) := by decide +kernel
theorem dL_law_645 : decode cL_law 645 = .ok (.aload_n 1, 1) := by decide +kernel
theorem dL_law_646 : decode cL_law 646 = .ok (.iload 19, 2) := by decide +kernel
theorem dL_law_648 : decode cL_law 648 = .ok (.iconst 4, 1) := by decide +kernel
theorem dL_law_649 : decode cL_law 649 = .ok (.invokevirtual 117, 3) := by decide +kernel
theorem dL_law_652 : decode cL_law 652 = .ok (.invokestatic 120, 3) := by decide +kernel
theorem dL_law_655 : decode cL_law 655 = .ok (.aload_n 1, 1) := by decide +kernel
theorem dL_law_656 : decode cL_law 656 = .ok (.iconst 4, 1) := by decide +kernel
theorem dL_law_657 : decode cL_law 657 = .ok (.invokevirtual 115, 3) := by decide +kernel
theorem dL_law_660 : decode cL_law 660 = .ok (.invokestatic 120, 3) := by decide +kernel
theorem dL_law_663 : decode cL_law 663 = .ok (.if_icmp .eq 5, 3) := by decide +kernel
theorem dL_law_666 : decode cL_law 666 = .ok (.iconst 0, 1) := by decide +kernel
theorem dL_law_667 : decode cL_law 667 = .ok (.ireturn, 1) := by decide +kernel
theorem dL_law_668 : decode cL_law 668 = .ok (.aload_n 1, 1) := by decide +kernel
theorem dL_law_669 : decode cL_law 669 = .ok (.iload 19, 2) := by decide +kernel
theorem dL_law_671 : decode cL_law 671 = .ok (.bipush 6, 2) := by decide +kernel
theorem dL_law_673 : decode cL_law 673 = .ok (.invokevirtual 117, 3) := by decide +kernel
theorem dL_law_676 : decode cL_law 676 = .ok (.iload 15, 2) := by decide +kernel
theorem dL_law_678 : decode cL_law 678 = .ok (.if_icmp .lt 64, 3) := by decide +kernel
theorem dL_law_681 : decode cL_law 681 = .ok (.aload_n 1, 1) := by decide +kernel
theorem dL_law_682 : decode cL_law 682 = .ok (.iload 19, 2) := by decide +kernel
theorem dL_law_684 : decode cL_law 684 = .ok (.bipush 7, 2) := by decide +kernel
theorem dL_law_686 : decode cL_law 686 = .ok (.invokevirtual 117, 3) := by decide +kernel
theorem dL_law_689 : decode cL_law 689 = .ok (.iload 16, 2) := by decide +kernel
theorem dL_law_691 : decode cL_law 691 = .ok (.if_icmp .lt 51, 3) := by decide +kernel
theorem dL_law_694 : decode cL_law 694 = .ok (.aload_n 1, 1) := by decide +kernel
theorem dL_law_695 : decode cL_law 695 = .ok (.iload 19, 2) := by decide +kernel
theorem dL_law_697 : decode cL_law 697 = .ok (.bipush 8, 2) := by decide +kernel
theorem dL_law_699 : decode cL_law 699 = .ok (.invokevirtual 117, 3) := by decide +kernel
theorem dL_law_702 : decode cL_law 702 = .ok (.iload 17, 2) := by decide +kernel
theorem dL_law_704 : decode cL_law 704 = .ok (.if_icmp .lt 38, 3) := by decide +kernel
theorem dL_law_707 : decode cL_law 707 = .ok (.aload_n 1, 1) := by decide +kernel
theorem dL_law_708 : decode cL_law 708 = .ok (.iload 19, 2) := by decide +kernel
theorem dL_law_710 : decode cL_law 710 = .ok (.bipush 7, 2) := by decide +kernel
theorem dL_law_712 : decode cL_law 712 = .ok (.invokevirtual 117, 3) := by decide +kernel
theorem dL_law_715 : decode cL_law 715 = .ok (.iconst 1, 1) := by decide +kernel
theorem dL_law_716 : decode cL_law 716 = .ok (.if_icmp .gt 26, 3) := by decide +kernel
theorem dL_law_719 : decode cL_law 719 = .ok (.aload_n 1, 1) := by decide +kernel
theorem dL_law_720 : decode cL_law 720 = .ok (.iload 19, 2) := by decide +kernel
theorem dL_law_722 : decode cL_law 722 = .ok (.bipush 7, 2) := by decide +kernel
theorem dL_law_724 : decode cL_law 724 = .ok (.invokevirtual 117, 3) := by decide +kernel
theorem dL_law_727 : decode cL_law 727 = .ok (.iconst 1, 1) := by decide +kernel
theorem dL_law_728 : decode cL_law 728 = .ok (.if_icmp .ne 16, 3) := by decide +kernel
theorem dL_law_731 : decode cL_law 731 = .ok (.aload_n 1, 1) := by decide +kernel
theorem dL_law_732 : decode cL_law 732 = .ok (.iload 19, 2) := by decide +kernel
theorem dL_law_734 : decode cL_law 734 = .ok (.bipush 6, 2) := by decide +kernel
theorem dL_law_736 : decode cL_law 736 = .ok (.invokevirtual 117, 3) := by decide +kernel
theorem dL_law_739 : decode cL_law 739 = .ok (.ifCond .ne 5, 3) := by decide +kernel
theorem dL_law_742 : decode cL_law 742 = .ok (.iconst 0, 1) := by decide +kernel
theorem dL_law_743 : decode cL_law 743 = .ok (.ireturn, 1) := by decide +kernel
theorem dL_law_744 : decode cL_law 744 = .ok (.aload_n 1, 1) := by decide +kernel
theorem dL_law_745 : decode cL_law 745 = .ok (.iload 19, 2) := by decide +kernel
theorem dL_law_747 : decode cL_law 747 = .ok (.bipush 6, 2) := by decide +kernel
theorem dL_law_749 : decode cL_law 749 = .ok (.invokevirtual 117, 3) := by decide +kernel
theorem dL_law_752 : decode cL_law 752 = .ok (.istore 15, 2) := by decide +kernel
theorem dL_law_754 : decode cL_law 754 = .ok (.aload_n 1, 1) := by decide +kernel
theorem dL_law_755 : decode cL_law 755 = .ok (.iload 19, 2) := by decide +kernel
theorem dL_law_757 : decode cL_law 757 = .ok (.bipush 7, 2) := by decide +kernel
theorem dL_law_759 : decode cL_law 759 = .ok (.invokevirtual 117, 3) := by decide +kernel
theorem dL_law_762 : decode cL_law 762 = .ok (.istore 16, 2) := by decide +kernel
theorem dL_law_764 : decode cL_law 764 = .ok (.aload_n 1, 1) := by decide +kernel
theorem dL_law_765 : decode cL_law 765 = .ok (.iload 19, 2) := by decide +kernel
theorem dL_law_767 : decode cL_law 767 = .ok (.bipush 8, 2) := by decide +kernel
theorem dL_law_769 : decode cL_law 769 = .ok (.invokevirtual 117, 3) := by decide +kernel
theorem dL_law_772 : decode cL_law 772 = .ok (.istore 17, 2) := by decide +kernel
theorem dL_law_774 : decode cL_law 774 = .ok (.iload 22, 2) := by decide +kernel
theorem dL_law_776 : decode cL_law 776 = .ok (.istore 18, 2) := by decide +kernel
theorem dL_law_778 : decode cL_law 778 = .ok (.iload 19, 2) := by decide +kernel
theorem dL_law_780 : decode cL_law 780 = .ok (.ifCond .le 46, 3) := by decide +kernel
theorem dL_law_783 : decode cL_law 783 = .ok (.iload 19, 2) := by decide +kernel
theorem dL_law_785 : decode cL_law 785 = .ok (.bipush 7, 2) := by decide +kernel
theorem dL_law_787 : decode cL_law 787 = .ok (.irem, 1) := by decide +kernel
theorem dL_law_788 : decode cL_law 788 = .ok (.iconst 3, 1) := by decide +kernel
theorem dL_law_789 : decode cL_law 789 = .ok (.if_icmp .ne 37, 3) := by decide +kernel
theorem dL_law_792 : decode cL_law 792 = .ok (.aload_n 1, 1) := by decide +kernel
theorem dL_law_793 : decode cL_law 793 = .ok (.iload 19, 2) := by decide +kernel
theorem dL_law_795 : decode cL_law 795 = .ok (.iconst 0, 1) := by decide +kernel
theorem dL_law_796 : decode cL_law 796 = .ok (.bipush (-2), 2) := by decide +kernel
theorem dL_law_798 : decode cL_law 798 = .ok (.bipush 9, 2) := by decide +kernel
theorem dL_law_800 : decode cL_law 800 = .ok (.invokevirtual 123, 3) := by decide +kernel
theorem dL_law_803 : decode cL_law 803 = .ok (.ifCond .le 7, 3) := by decide +kernel
theorem dL_law_806 : decode cL_law 806 = .ok (.iconst 1, 1) := by decide +kernel
theorem dL_law_807 : decode cL_law 807 = .ok (.goto 4, 3) := by decide +kernel
theorem dL_law_810 : decode cL_law 810 = .ok (.iconst 0, 1) := by decide +kernel
theorem dL_law_811 : decode cL_law 811 = .ok (.iload 15, 2) := by decide +kernel
theorem dL_law_813 : decode cL_law 813 = .ok (.ifCond .le 7, 3) := by decide +kernel
theorem dL_law_816 : decode cL_law 816 = .ok (.iconst 1, 1) := by decide +kernel
theorem dL_law_817 : decode cL_law 817 = .ok (.goto 4, 3) := by decide +kernel
theorem dL_law_820 : decode cL_law 820 = .ok (.iconst 0, 1) := by decide +kernel
theorem dL_law_821 : decode cL_law 821 = .ok (.if_icmp .eq 5, 3) := by decide +kernel
theorem dL_law_824 : decode cL_law 824 = .ok (.iconst 0, 1) := by decide +kernel
theorem dL_law_825 : decode cL_law 825 = .ok (.ireturn, 1) := by decide +kernel
theorem dL_law_826 : decode cL_law 826 = .ok (.iinc 19 1, 3) := by decide +kernel
theorem dL_law_829 : decode cL_law 829 = .ok (.goto (-342), 3) := by decide +kernel
theorem dL_law_832 : decode cL_law 832 = .ok (.aload_n 1, 1) := by decide +kernel
theorem dL_law_833 : decode cL_law 833 = .ok (.iconst 2, 1) := by decide +kernel
theorem dL_law_834 : decode cL_law 834 = .ok (.invokevirtual 112, 3) := by decide +kernel
theorem dL_law_837 : decode cL_law 837 = .ok (.iload 15, 2) := by decide +kernel
theorem dL_law_839 : decode cL_law 839 = .ok (.if_icmp .lt 59, 3) := by decide +kernel
theorem dL_law_842 : decode cL_law 842 = .ok (.aload_n 1, 1) := by decide +kernel
theorem dL_law_843 : decode cL_law 843 = .ok (.iconst 3, 1) := by decide +kernel
theorem dL_law_844 : decode cL_law 844 = .ok (.invokevirtual 112, 3) := by decide +kernel
theorem dL_law_847 : decode cL_law 847 = .ok (.iload 16, 2) := by decide +kernel
theorem dL_law_849 : decode cL_law 849 = .ok (.if_icmp .lt 49, 3) := by decide +kernel
theorem dL_law_852 : decode cL_law 852 = .ok (.aload_n 1, 1) := by decide +kernel
theorem dL_law_853 : decode cL_law 853 = .ok (.iconst 4, 1) := by decide +kernel
theorem dL_law_854 : decode cL_law 854 = .ok (.invokevirtual 112, 3) := by decide +kernel
theorem dL_law_857 : decode cL_law 857 = .ok (.iload 17, 2) := by decide +kernel
theorem dL_law_859 : decode cL_law 859 = .ok (.if_icmp .lt 39, 3) := by decide +kernel
theorem dL_law_862 : decode cL_law 862 = .ok (.iload 13, 2) := by decide +kernel
theorem dL_law_864 : decode cL_law 864 = .ok (.iconst 3, 1) := by decide +kernel
theorem dL_law_865 : decode cL_law 865 = .ok (.if_icmp .ne 19, 3) := by decide +kernel
theorem dL_law_868 : decode cL_law 868 = .ok (.aload_n 1, 1) := by decide +kernel
theorem dL_law_869 : decode cL_law 869 = .ok (.iconst 2, 1) := by decide +kernel
theorem dL_law_870 : decode cL_law 870 = .ok (.invokevirtual 112, 3) := by decide +kernel
theorem dL_law_873 : decode cL_law 873 = .ok (.ifCond .eq 25, 3) := by decide +kernel
theorem dL_law_876 : decode cL_law 876 = .ok (.aload_n 1, 1) := by decide +kernel
theorem dL_law_877 : decode cL_law 877 = .ok (.iconst 3, 1) := by decide +kernel
theorem dL_law_878 : decode cL_law 878 = .ok (.invokevirtual 112, 3) := by decide +kernel
theorem dL_law_881 : decode cL_law 881 = .ok (.ifCond .eq 17, 3) := by decide +kernel
theorem dL_law_884 : decode cL_law 884 = .ok (.iload 13, 2) := by decide +kernel
theorem dL_law_886 : decode cL_law 886 = .ok (.iconst 2, 1) := by decide +kernel
theorem dL_law_887 : decode cL_law 887 = .ok (.if_icmp .ne 13, 3) := by decide +kernel
theorem dL_law_890 : decode cL_law 890 = .ok (.aload_n 1, 1) := by decide +kernel
theorem dL_law_891 : decode cL_law 891 = .ok (.iconst 3, 1) := by decide +kernel
theorem dL_law_892 : decode cL_law 892 = .ok (.invokevirtual 112, 3) := by decide +kernel
theorem dL_law_895 : decode cL_law 895 = .ok (.ifCond .eq 5, 3) := by decide +kernel
theorem dL_law_898 : decode cL_law 898 = .ok (.iconst 0, 1) := by decide +kernel
theorem dL_law_899 : decode cL_law 899 = .ok (.ireturn, 1) := by decide +kernel
theorem dL_law_900 : decode cL_law 900 = .ok (.aload_n 1, 1) := by decide +kernel
theorem dL_law_901 : decode cL_law 901 = .ok (.iconst 1, 1) := by decide +kernel
theorem dL_law_902 : decode cL_law 902 = .ok (.invokevirtual 98, 3) := by decide +kernel
theorem dL_law_905 : decode cL_law 905 = .ok (.ifCond .ge 7, 3) := by decide +kernel
theorem dL_law_908 : decode cL_law 908 = .ok (.iconst 0, 1) := by decide +kernel
theorem dL_law_909 : decode cL_law 909 = .ok (.goto 11, 3) := by decide +kernel
theorem dL_law_912 : decode cL_law 912 = .ok (.aload_n 2, 1) := by decide +kernel
theorem dL_law_913 : decode cL_law 913 = .ok (.iload 5, 2) := by decide +kernel
theorem dL_law_915 : decode cL_law 915 = .ok (.iconst 3, 1) := by decide +kernel
theorem dL_law_916 : decode cL_law 916 = .ok (.ishr, 1) := by decide +kernel
theorem dL_law_917 : decode cL_law 917 = .ok (.invokestatic 83, 3) := by decide +kernel
theorem dL_law_920 : decode cL_law 920 = .ok (.istore 15, 2) := by decide +kernel
theorem dL_law_922 : decode cL_law 922 = .ok (.iload 4, 2) := by decide +kernel
theorem dL_law_924 : decode cL_law 924 = .ok (.iconst 3, 1) := by decide +kernel
theorem dL_law_925 : decode cL_law 925 = .ok (.irem, 1) := by decide +kernel
theorem dL_law_926 : decode cL_law 926 = .ok (.ifCond .ne 79, 3) := by decide +kernel
theorem dL_law_929 : decode cL_law 929 = .ok (.aload_n 1, 1) := by decide +kernel
theorem dL_law_930 : decode cL_law 930 = .ok (.iload 15, 2) := by decide +kernel
theorem dL_law_932 : decode cL_law 932 = .ok (.invokevirtual 126, 3) := by decide +kernel
theorem dL_law_935 : decode cL_law 935 = .ok (.istore 16, 2) := by decide +kernel
theorem dL_law_937 : decode cL_law 937 = .ok (.iload 16, 2) := by decide +kernel
theorem dL_law_939 : decode cL_law 939 = .ok (.ifCond .lt 34, 3) := by decide +kernel
theorem dL_law_942 : decode cL_law 942 = .ok (.aload_n 1, 1) := by decide +kernel
theorem dL_law_943 : decode cL_law 943 = .ok (.iload 15, 2) := by decide +kernel
theorem dL_law_945 : decode cL_law 945 = .ok (.iload 16, 2) := by decide +kernel
theorem dL_law_947 : decode cL_law 947 = .ok (.bipush 50, 2) := by decide +kernel
theorem dL_law_949 : decode cL_law 949 = .ok (.idiv, 1) := by decide +kernel
theorem dL_law_950 : decode cL_law 950 = .ok (.iconst 2, 1) := by decide +kernel
theorem dL_law_951 : decode cL_law 951 = .ok (.isub, 1) := by decide +kernel
theorem dL_law_952 : decode cL_law 952 = .ok (.iload 16, 2) := by decide +kernel
theorem dL_law_954 : decode cL_law 954 = .ok (.bipush 10, 2) := by decide +kernel
theorem dL_law_956 : decode cL_law 956 = .ok (.idiv, 1) := by decide +kernel
theorem dL_law_957 : decode cL_law 957 = .ok (.iconst 5, 1) := by decide +kernel
theorem dL_law_958 : decode cL_law 958 = .ok (.irem, 1) := by decide +kernel
theorem dL_law_959 : decode cL_law 959 = .ok (.iconst 2, 1) := by decide +kernel
theorem dL_law_960 : decode cL_law 960 = .ok (.isub, 1) := by decide +kernel
theorem dL_law_961 : decode cL_law 961 = .ok (.iload 16, 2) := by decide +kernel
theorem dL_law_963 : decode cL_law 963 = .ok (.bipush 10, 2) := by decide +kernel
theorem dL_law_965 : decode cL_law 965 = .ok (.irem, 1) := by decide +kernel
theorem dL_law_966 : decode cL_law 966 = .ok (.invokevirtual 123, 3) := by decide +kernel
theorem dL_law_969 : decode cL_law 969 = .ok (.iconst 3, 1) := by decide +kernel
theorem dL_law_970 : decode cL_law 970 = .ok (.if_icmp .ne 11, 3) := by decide +kernel
theorem dL_law_973 : decode cL_law 973 = .ok (.iload 16, 2) := by decide +kernel
theorem dL_law_975 : decode cL_law 975 = .ok (.sipush 250, 3) := by decide +kernel
theorem dL_law_978 : decode cL_law 978 = .ok (.if_icmp .lt 5, 3) := by decide +kernel
theorem dL_law_981 : decode cL_law 981 = .ok (.iconst 0, 1) := by decide +kernel
theorem dL_law_982 : decode cL_law 982 = .ok (.ireturn, 1) := by decide +kernel
theorem dL_law_983 : decode cL_law 983 = .ok (.iload 16, 2) := by decide +kernel
theorem dL_law_985 : decode cL_law 985 = .ok (.ifCond .ge 20, 3) := by decide +kernel
theorem dL_law_988 : decode cL_law 988 = .ok (.aload_n 1, 1) := by decide +kernel
theorem dL_law_989 : decode cL_law 989 = .ok (.iload 15, 2) := by decide +kernel
theorem dL_law_991 : decode cL_law 991 = .ok (.iconst 0, 1) := by decide +kernel
theorem dL_law_992 : decode cL_law 992 = .ok (.bipush (-2), 2) := by decide +kernel
theorem dL_law_994 : decode cL_law 994 = .ok (.bipush 9, 2) := by decide +kernel
theorem dL_law_996 : decode cL_law 996 = .ok (.invokevirtual 123, 3) := by decide +kernel
theorem dL_law_999 : decode cL_law 999 = .ok (.iconst 3, 1) := by decide +kernel
theorem dL_law_1000 : decode cL_law 1000 = .ok (.if_icmp .ne 5, 3) := by decide +kernel
theorem dL_law_1003 : decode cL_law 1003 = .ok (.iconst 0, 1) := by decide +kernel
theorem dL_law_1004 : decode cL_law 1004 = .ok (.ireturn, 1) := by decide +kernel
theorem dL_law_1005 : decode cL_law 1005 = .ok (.aload_n 1, 1) := by decide +kernel
theorem dL_law_1006 : decode cL_law 1006 = .ok (.invokevirtual 108, 3) := by decide +kernel
theorem dL_law_1009 : decode cL_law 1009 = .ok (.lload 11, 2) := by decide +kernel
theorem dL_law_1011 : decode cL_law 1011 = .ok (.lcmp, 1) := by decide +kernel
theorem dL_law_1012 : decode cL_law 1012 = .ok (.ifCond .eq 5, 3) := by decide +kernel
theorem dL_law_1015 : decode cL_law 1015 = .ok (.iconst 0, 1) := by decide +kernel
theorem dL_law_1016 : decode cL_law 1016 = .ok (.ireturn, 1) := by decide +kernel
theorem dL_law_1017 : decode cL_law 1017 = .ok (.iinc 4 1, 3) := by decide +kernel
theorem dL_law_1020 : decode cL_law 1020 = .ok (.goto (-999), 3) := by decide +kernel
theorem dL_law_1023 : decode cL_law 1023 = .ok (.aload_n 2, 1) := by decide +kernel
theorem dL_law_1024 : decode cL_law 1024 = .ok (.aload_n 1, 1) := by decide +kernel
theorem dL_law_1025 : decode cL_law 1025 = .ok (.invokevirtual 129, 3) := by decide +kernel
theorem dL_law_1028 : decode cL_law 1028 = .ok (.ireturn, 1) := by decide +kernel
