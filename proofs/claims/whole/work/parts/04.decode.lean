theorem dX0_init_0 : decode cX0_init 0 = .ok (.aload_n 0, 1) := by decide +kernel
theorem dX0_init_1 : decode cX0_init 1 = .ok (.invokespecial 3, 3) := by decide +kernel
theorem dX0_init_4 : decode cX0_init 4 = .ok (.return_, 1) := by decide +kernel
theorem dX0_placeToServe_0 : decode cX0_placeToServe 0 = .ok (.aload_n 0, 1) := by decide +kernel
theorem dX0_placeToServe_1 : decode cX0_placeToServe 1 = .ok (.bipush 6, 2) := by decide +kernel
theorem dX0_placeToServe_3 : decode cX0_placeToServe 3 = .ok (.putfield 9, 3) := by decide +kernel
theorem dX0_placeToServe_6 : decode cX0_placeToServe 6 = .ok (.aload_n 0, 1) := by decide +kernel
theorem dX0_placeToServe_7 : decode cX0_placeToServe 7 = .ok (.bipush 14, 2) := by decide +kernel
theorem dX0_placeToServe_9 : decode cX0_placeToServe 9 = .ok (.putfield 15, 3) := by decide +kernel
theorem dX0_placeToServe_12 : decode cX0_placeToServe 12 = .ok (.aload_n 0, 1) := by decide +kernel
theorem dX0_placeToServe_13 : decode cX0_placeToServe 13 = .ok (.iconst 3, 1) := by decide +kernel
theorem dX0_placeToServe_14 : decode cX0_placeToServe 14 = .ok (.putfield 18, 3) := by decide +kernel
theorem dX0_placeToServe_17 : decode cX0_placeToServe 17 = .ok (.return_, 1) := by decide +kernel
theorem dX0_become_0 : decode cX0_become 0 = .ok (.aload_n 0, 1) := by decide +kernel
theorem dX0_become_1 : decode cX0_become 1 = .ok (.aload_n 1, 1) := by decide +kernel
theorem dX0_become_2 : decode cX0_become 2 = .ok (.getfield 9, 3) := by decide +kernel
theorem dX0_become_5 : decode cX0_become 5 = .ok (.putfield 9, 3) := by decide +kernel
theorem dX0_become_8 : decode cX0_become 8 = .ok (.aload_n 0, 1) := by decide +kernel
theorem dX0_become_9 : decode cX0_become 9 = .ok (.aload_n 1, 1) := by decide +kernel
theorem dX0_become_10 : decode cX0_become 10 = .ok (.getfield 15, 3) := by decide +kernel
theorem dX0_become_13 : decode cX0_become 13 = .ok (.putfield 15, 3) := by decide +kernel
theorem dX0_become_16 : decode cX0_become 16 = .ok (.aload_n 0, 1) := by decide +kernel
theorem dX0_become_17 : decode cX0_become 17 = .ok (.aload_n 1, 1) := by decide +kernel
theorem dX0_become_18 : decode cX0_become 18 = .ok (.getfield 18, 3) := by decide +kernel
theorem dX0_become_21 : decode cX0_become 21 = .ok (.putfield 18, 3) := by decide +kernel
theorem dX0_become_24 : decode cX0_become 24 = .ok (.aload_n 0, 1) := by decide +kernel
theorem dX0_become_25 : decode cX0_become 25 = .ok (.aload_n 1, 1) := by decide +kernel
theorem dX0_become_26 : decode cX0_become 26 = .ok (.getfield 21, 3) := by decide +kernel
theorem dX0_become_29 : decode cX0_become 29 = .ok (.putfield 21, 3) := by decide +kernel
theorem dX0_become_32 : decode cX0_become 32 = .ok (.aload_n 0, 1) := by decide +kernel
theorem dX0_become_33 : decode cX0_become 33 = .ok (.aload_n 1, 1) := by decide +kernel
theorem dX0_become_34 : decode cX0_become 34 = .ok (.getfield 24, 3) := by decide +kernel
theorem dX0_become_37 : decode cX0_become 37 = .ok (.putfield 24, 3) := by decide +kernel
theorem dX0_become_40 : decode cX0_become 40 = .ok (.aload_n 0, 1) := by decide +kernel
theorem dX0_become_41 : decode cX0_become 41 = .ok (.aload_n 1, 1) := by decide +kernel
theorem dX0_become_42 : decode cX0_become 42 = .ok (.getfield 27, 3) := by decide +kernel
theorem dX0_become_45 : decode cX0_become 45 = .ok (.putfield 27, 3) := by decide +kernel
theorem dX0_become_48 : decode cX0_become 48 = .ok (.aload_n 0, 1) := by decide +kernel
theorem dX0_become_49 : decode cX0_become 49 = .ok (.aload_n 1, 1) := by decide +kernel
theorem dX0_become_50 : decode cX0_become 50 = .ok (.getfield 30, 3) := by decide +kernel
theorem dX0_become_53 : decode cX0_become 53 = .ok (.putfield 30, 3) := by decide +kernel
theorem dX0_become_56 : decode cX0_become 56 = .ok (.aload_n 0, 1) := by decide +kernel
theorem dX0_become_57 : decode cX0_become 57 = .ok (.aload_n 1, 1) := by decide +kernel
theorem dX0_become_58 : decode cX0_become 58 = .ok (.getfield 33, 3) := by decide +kernel
theorem dX0_become_61 : decode cX0_become 61 = .ok (.putfield 33, 3) := by decide +kernel
theorem dX0_become_64 : decode cX0_become 64 = .ok (.aload_n 0, 1) := by decide +kernel
theorem dX0_become_65 : decode cX0_become 65 = .ok (.aload_n 1, 1) := by decide +kernel
theorem dX0_become_66 : decode cX0_become 66 = .ok (.getfield 36, 3) := by decide +kernel
theorem dX0_become_69 : decode cX0_become 69 = .ok (.putfield 36, 3) := by decide +kernel
theorem dX0_become_72 : decode cX0_become 72 = .ok (.aload_n 0, 1) := by decide +kernel
theorem dX0_become_73 : decode cX0_become 73 = .ok (.aload_n 1, 1) := by decide +kernel
theorem dX0_become_74 : decode cX0_become 74 = .ok (.getfield 39, 3) := by decide +kernel
theorem dX0_become_77 : decode cX0_become 77 = .ok (.putfield 39, 3) := by decide +kernel
theorem dX0_become_80 : decode cX0_become 80 = .ok (.aload_n 0, 1) := by decide +kernel
theorem dX0_become_81 : decode cX0_become 81 = .ok (.aload_n 1, 1) := by decide +kernel
theorem dX0_become_82 : decode cX0_become 82 = .ok (.getfield 42, 3) := by decide +kernel
theorem dX0_become_85 : decode cX0_become 85 = .ok (.putfield 42, 3) := by decide +kernel
theorem dX0_become_88 : decode cX0_become 88 = .ok (.return_, 1) := by decide +kernel
theorem dX0_launch_0 : decode cX0_launch 0 = .ok (.aload_n 0, 1) := by decide +kernel
theorem dX0_launch_1 : decode cX0_launch 1 = .ok (.aload_n 0, 1) := by decide +kernel
theorem dX0_launch_2 : decode cX0_launch 2 = .ok (.getfield 18, 3) := by decide +kernel
theorem dX0_launch_5 : decode cX0_launch 5 = .ok (.iconst 1, 1) := by decide +kernel
theorem dX0_launch_6 : decode cX0_launch 6 = .ok (.invokestatic 45, 3) := by decide +kernel
theorem dX0_launch_9 : decode cX0_launch 9 = .ok (.putfield 18, 3) := by decide +kernel
theorem dX0_launch_12 : decode cX0_launch 12 = .ok (.aload_n 0, 1) := by decide +kernel
theorem dX0_launch_13 : decode cX0_launch 13 = .ok (.iload_n 1, 1) := by decide +kernel
theorem dX0_launch_14 : decode cX0_launch 14 = .ok (.putfield 21, 3) := by decide +kernel
theorem dX0_launch_17 : decode cX0_launch 17 = .ok (.aload_n 0, 1) := by decide +kernel
theorem dX0_launch_18 : decode cX0_launch 18 = .ok (.iload_n 2, 1) := by decide +kernel
theorem dX0_launch_19 : decode cX0_launch 19 = .ok (.putfield 24, 3) := by decide +kernel
theorem dX0_launch_22 : decode cX0_launch 22 = .ok (.aload_n 0, 1) := by decide +kernel
theorem dX0_launch_23 : decode cX0_launch 23 = .ok (.iload_n 3, 1) := by decide +kernel
theorem dX0_launch_24 : decode cX0_launch 24 = .ok (.putfield 27, 3) := by decide +kernel
theorem dX0_launch_27 : decode cX0_launch 27 = .ok (.aload_n 0, 1) := by decide +kernel
theorem dX0_launch_28 : decode cX0_launch 28 = .ok (.iconst 0, 1) := by decide +kernel
theorem dX0_launch_29 : decode cX0_launch 29 = .ok (.putfield 30, 3) := by decide +kernel
theorem dX0_launch_32 : decode cX0_launch 32 = .ok (.aload_n 0, 1) := by decide +kernel
theorem dX0_launch_33 : decode cX0_launch 33 = .ok (.iconst 0, 1) := by decide +kernel
theorem dX0_launch_34 : decode cX0_launch 34 = .ok (.putfield 33, 3) := by decide +kernel
theorem dX0_launch_37 : decode cX0_launch 37 = .ok (.aload_n 0, 1) := by decide +kernel
theorem dX0_launch_38 : decode cX0_launch 38 = .ok (.iconst 0, 1) := by decide +kernel
theorem dX0_launch_39 : decode cX0_launch 39 = .ok (.putfield 36, 3) := by decide +kernel
theorem dX0_launch_42 : decode cX0_launch 42 = .ok (.aload_n 0, 1) := by decide +kernel
theorem dX0_launch_43 : decode cX0_launch 43 = .ok (.iconst 0, 1) := by decide +kernel
theorem dX0_launch_44 : decode cX0_launch 44 = .ok (.putfield 39, 3) := by decide +kernel
theorem dX0_launch_47 : decode cX0_launch 47 = .ok (.aload_n 0, 1) := by decide +kernel
theorem dX0_launch_48 : decode cX0_launch 48 = .ok (.iconst 0, 1) := by decide +kernel
theorem dX0_launch_49 : decode cX0_launch 49 = .ok (.putfield 42, 3) := by decide +kernel
theorem dX0_launch_52 : decode cX0_launch 52 = .ok (.return_, 1) := by decide +kernel
theorem dX0_fly_0 : decode cX0_fly 0 = .ok (.iconst 0, 1) := by decide +kernel
theorem dX0_fly_1 : decode cX0_fly 1 = .ok (.istore_n 2, 1) := by decide +kernel
theorem dX0_fly_2 : decode cX0_fly 2 = .ok (.iload_n 2, 1) := by decide +kernel
theorem dX0_fly_3 : decode cX0_fly 3 = .ok (.iload_n 1, 1) := by decide +kernel
theorem dX0_fly_4 : decode cX0_fly 4 = .ok (.if_icmp .ge 20, 3) := by decide +kernel
theorem dX0_fly_7 : decode cX0_fly 7 = .ok (.aload_n 0, 1) := by decide +kernel
theorem dX0_fly_8 : decode cX0_fly 8 = .ok (.getfield 42, 3) := by decide +kernel
theorem dX0_fly_11 : decode cX0_fly 11 = .ok (.ifCond .ne 13, 3) := by decide +kernel
theorem dX0_fly_14 : decode cX0_fly 14 = .ok (.aload_n 0, 1) := by decide +kernel
theorem dX0_fly_15 : decode cX0_fly 15 = .ok (.invokevirtual 51, 3) := by decide +kernel
theorem dX0_fly_18 : decode cX0_fly 18 = .ok (.iinc 2 1, 3) := by decide +kernel
theorem dX0_fly_21 : decode cX0_fly 21 = .ok (.goto (-19), 3) := by decide +kernel
theorem dX0_fly_24 : decode cX0_fly 24 = .ok (.return_, 1) := by decide +kernel
theorem dX0_passMoment_0 : decode cX0_passMoment 0 = .ok (.aload_n 0, 1) := by decide +kernel
theorem dX0_passMoment_1 : decode cX0_passMoment 1 = .ok (.dup, 1) := by decide +kernel
theorem dX0_passMoment_2 : decode cX0_passMoment 2 = .ok (.getfield 39, 3) := by decide +kernel
theorem dX0_passMoment_5 : decode cX0_passMoment 5 = .ok (.iconst 1, 1) := by decide +kernel
theorem dX0_passMoment_6 : decode cX0_passMoment 6 = .ok (.iadd, 1) := by decide +kernel
theorem dX0_passMoment_7 : decode cX0_passMoment 7 = .ok (.putfield 39, 3) := by decide +kernel
theorem dX0_passMoment_10 : decode cX0_passMoment 10 = .ok (.aload_n 0, 1) := by decide +kernel
theorem dX0_passMoment_11 : decode cX0_passMoment 11 = .ok (.invokevirtual 54, 3) := by decide +kernel
theorem dX0_passMoment_14 : decode cX0_passMoment 14 = .ok (.aload_n 0, 1) := by decide +kernel
theorem dX0_passMoment_15 : decode cX0_passMoment 15 = .ok (.invokevirtual 57, 3) := by decide +kernel
theorem dX0_passMoment_18 : decode cX0_passMoment 18 = .ok (.aload_n 0, 1) := by decide +kernel
theorem dX0_passMoment_19 : decode cX0_passMoment 19 = .ok (.getfield 42, 3) := by decide +kernel
theorem dX0_passMoment_22 : decode cX0_passMoment 22 = .ok (.ifCond .ne 7, 3) := by decide +kernel
theorem dX0_passMoment_25 : decode cX0_passMoment 25 = .ok (.aload_n 0, 1) := by decide +kernel
theorem dX0_passMoment_26 : decode cX0_passMoment 26 = .ok (.invokevirtual 60, 3) := by decide +kernel
theorem dX0_passMoment_29 : decode cX0_passMoment 29 = .ok (.return_, 1) := by decide +kernel
theorem dX0_goAcross_0 : decode cX0_goAcross 0 = .ok (.aload_n 0, 1) := by decide +kernel
theorem dX0_goAcross_1 : decode cX0_goAcross 1 = .ok (.getfield 21, 3) := by decide +kernel
theorem dX0_goAcross_4 : decode cX0_goAcross 4 = .ok (.invokestatic 63, 3) := by decide +kernel
theorem dX0_goAcross_7 : decode cX0_goAcross 7 = .ok (.istore_n 1, 1) := by decide +kernel
theorem dX0_goAcross_8 : decode cX0_goAcross 8 = .ok (.iconst 0, 1) := by decide +kernel
theorem dX0_goAcross_9 : decode cX0_goAcross 9 = .ok (.istore_n 2, 1) := by decide +kernel
theorem dX0_goAcross_10 : decode cX0_goAcross 10 = .ok (.iload_n 2, 1) := by decide +kernel
theorem dX0_goAcross_11 : decode cX0_goAcross 11 = .ok (.iload_n 1, 1) := by decide +kernel
theorem dX0_goAcross_12 : decode cX0_goAcross 12 = .ok (.if_icmp .ge 70, 3) := by decide +kernel
theorem dX0_goAcross_15 : decode cX0_goAcross 15 = .ok (.aload_n 0, 1) := by decide +kernel
theorem dX0_goAcross_16 : decode cX0_goAcross 16 = .ok (.getfield 9, 3) := by decide +kernel
theorem dX0_goAcross_19 : decode cX0_goAcross 19 = .ok (.aload_n 0, 1) := by decide +kernel
theorem dX0_goAcross_20 : decode cX0_goAcross 20 = .ok (.getfield 21, 3) := by decide +kernel
theorem dX0_goAcross_23 : decode cX0_goAcross 23 = .ok (.invokestatic 67, 3) := by decide +kernel
theorem dX0_goAcross_26 : decode cX0_goAcross 26 = .ok (.iadd, 1) := by decide +kernel
theorem dX0_goAcross_27 : decode cX0_goAcross 27 = .ok (.istore_n 3, 1) := by decide +kernel
theorem dX0_goAcross_28 : decode cX0_goAcross 28 = .ok (.iload_n 3, 1) := by decide +kernel
theorem dX0_goAcross_29 : decode cX0_goAcross 29 = .ok (.ifCond .lt 20, 3) := by decide +kernel
theorem dX0_goAcross_32 : decode cX0_goAcross 32 = .ok (.iload_n 3, 1) := by decide +kernel
theorem dX0_goAcross_33 : decode cX0_goAcross 33 = .ok (.bipush 12, 2) := by decide +kernel
theorem dX0_goAcross_35 : decode cX0_goAcross 35 = .ok (.if_icmp .ge 14, 3) := by decide +kernel
theorem dX0_goAcross_38 : decode cX0_goAcross 38 = .ok (.iload_n 3, 1) := by decide +kernel
theorem dX0_goAcross_39 : decode cX0_goAcross 39 = .ok (.aload_n 0, 1) := by decide +kernel
theorem dX0_goAcross_40 : decode cX0_goAcross 40 = .ok (.getfield 15, 3) := by decide +kernel
theorem dX0_goAcross_43 : decode cX0_goAcross 43 = .ok (.invokestatic 72, 3) := by decide +kernel
theorem dX0_goAcross_46 : decode cX0_goAcross 46 = .ok (.ifCond .eq 25, 3) := by decide +kernel
theorem dX0_goAcross_49 : decode cX0_goAcross 49 = .ok (.aload_n 0, 1) := by decide +kernel
theorem dX0_goAcross_50 : decode cX0_goAcross 50 = .ok (.aload_n 0, 1) := by decide +kernel
theorem dX0_goAcross_51 : decode cX0_goAcross 51 = .ok (.getfield 21, 3) := by decide +kernel
theorem dX0_goAcross_54 : decode cX0_goAcross 54 = .ok (.ineg, 1) := by decide +kernel
theorem dX0_goAcross_55 : decode cX0_goAcross 55 = .ok (.putfield 21, 3) := by decide +kernel
theorem dX0_goAcross_58 : decode cX0_goAcross 58 = .ok (.aload_n 0, 1) := by decide +kernel
theorem dX0_goAcross_59 : decode cX0_goAcross 59 = .ok (.dup, 1) := by decide +kernel
theorem dX0_goAcross_60 : decode cX0_goAcross 60 = .ok (.getfield 36, 3) := by decide +kernel
theorem dX0_goAcross_63 : decode cX0_goAcross 63 = .ok (.iconst 1, 1) := by decide +kernel
theorem dX0_goAcross_64 : decode cX0_goAcross 64 = .ok (.iadd, 1) := by decide +kernel
theorem dX0_goAcross_65 : decode cX0_goAcross 65 = .ok (.putfield 36, 3) := by decide +kernel
theorem dX0_goAcross_68 : decode cX0_goAcross 68 = .ok (.goto 8, 3) := by decide +kernel
theorem dX0_goAcross_71 : decode cX0_goAcross 71 = .ok (.aload_n 0, 1) := by decide +kernel
theorem dX0_goAcross_72 : decode cX0_goAcross 72 = .ok (.iload_n 3, 1) := by decide +kernel
theorem dX0_goAcross_73 : decode cX0_goAcross 73 = .ok (.putfield 9, 3) := by decide +kernel
theorem dX0_goAcross_76 : decode cX0_goAcross 76 = .ok (.iinc 2 1, 3) := by decide +kernel
theorem dX0_goAcross_79 : decode cX0_goAcross 79 = .ok (.goto (-69), 3) := by decide +kernel
theorem dX0_goAcross_82 : decode cX0_goAcross 82 = .ok (.return_, 1) := by decide +kernel
theorem dX0_goAlong_0 : decode cX0_goAlong 0 = .ok (.aload_n 0, 1) := by decide +kernel
theorem dX0_goAlong_1 : decode cX0_goAlong 1 = .ok (.getfield 24, 3) := by decide +kernel
theorem dX0_goAlong_4 : decode cX0_goAlong 4 = .ok (.invokestatic 63, 3) := by decide +kernel
theorem dX0_goAlong_7 : decode cX0_goAlong 7 = .ok (.istore_n 1, 1) := by decide +kernel
theorem dX0_goAlong_8 : decode cX0_goAlong 8 = .ok (.iconst 0, 1) := by decide +kernel
theorem dX0_goAlong_9 : decode cX0_goAlong 9 = .ok (.istore_n 2, 1) := by decide +kernel
theorem dX0_goAlong_10 : decode cX0_goAlong 10 = .ok (.iload_n 2, 1) := by decide +kernel
theorem dX0_goAlong_11 : decode cX0_goAlong 11 = .ok (.iload_n 1, 1) := by decide +kernel
theorem dX0_goAlong_12 : decode cX0_goAlong 12 = .ok (.if_icmp .ge 20, 3) := by decide +kernel
theorem dX0_goAlong_15 : decode cX0_goAlong 15 = .ok (.aload_n 0, 1) := by decide +kernel
theorem dX0_goAlong_16 : decode cX0_goAlong 16 = .ok (.getfield 42, 3) := by decide +kernel
theorem dX0_goAlong_19 : decode cX0_goAlong 19 = .ok (.ifCond .ne 13, 3) := by decide +kernel
theorem dX0_goAlong_22 : decode cX0_goAlong 22 = .ok (.aload_n 0, 1) := by decide +kernel
theorem dX0_goAlong_23 : decode cX0_goAlong 23 = .ok (.invokevirtual 76, 3) := by decide +kernel
theorem dX0_goAlong_26 : decode cX0_goAlong 26 = .ok (.iinc 2 1, 3) := by decide +kernel
theorem dX0_goAlong_29 : decode cX0_goAlong 29 = .ok (.goto (-19), 3) := by decide +kernel
theorem dX0_goAlong_32 : decode cX0_goAlong 32 = .ok (.return_, 1) := by decide +kernel
theorem dX0_goOneRow_0 : decode cX0_goOneRow 0 = .ok (.aload_n 0, 1) := by decide +kernel
theorem dX0_goOneRow_1 : decode cX0_goOneRow 1 = .ok (.getfield 15, 3) := by decide +kernel
theorem dX0_goOneRow_4 : decode cX0_goOneRow 4 = .ok (.aload_n 0, 1) := by decide +kernel
theorem dX0_goOneRow_5 : decode cX0_goOneRow 5 = .ok (.getfield 24, 3) := by decide +kernel
theorem dX0_goOneRow_8 : decode cX0_goOneRow 8 = .ok (.invokestatic 67, 3) := by decide +kernel
theorem dX0_goOneRow_11 : decode cX0_goOneRow 11 = .ok (.iadd, 1) := by decide +kernel
theorem dX0_goOneRow_12 : decode cX0_goOneRow 12 = .ok (.istore_n 1, 1) := by decide +kernel
theorem dX0_goOneRow_13 : decode cX0_goOneRow 13 = .ok (.iload_n 1, 1) := by decide +kernel
theorem dX0_goOneRow_14 : decode cX0_goOneRow 14 = .ok (.ifCond .ge 10, 3) := by decide +kernel
theorem dX0_goOneRow_17 : decode cX0_goOneRow 17 = .ok (.aload_n 0, 1) := by decide +kernel
theorem dX0_goOneRow_18 : decode cX0_goOneRow 18 = .ok (.invokevirtual 79, 3) := by decide +kernel
theorem dX0_goOneRow_21 : decode cX0_goOneRow 21 = .ok (.goto 66, 3) := by decide +kernel
theorem dX0_goOneRow_24 : decode cX0_goOneRow 24 = .ok (.iload_n 1, 1) := by decide +kernel
theorem dX0_goOneRow_25 : decode cX0_goOneRow 25 = .ok (.bipush 30, 2) := by decide +kernel
theorem dX0_goOneRow_27 : decode cX0_goOneRow 27 = .ok (.if_icmp .lt 22, 3) := by decide +kernel
theorem dX0_goOneRow_30 : decode cX0_goOneRow 30 = .ok (.aload_n 0, 1) := by decide +kernel
theorem dX0_goOneRow_31 : decode cX0_goOneRow 31 = .ok (.aload_n 0, 1) := by decide +kernel
theorem dX0_goOneRow_32 : decode cX0_goOneRow 32 = .ok (.getfield 33, 3) := by decide +kernel
theorem dX0_goOneRow_35 : decode cX0_goOneRow 35 = .ok (.ifCond .ne 7, 3) := by decide +kernel
theorem dX0_goOneRow_38 : decode cX0_goOneRow 38 = .ok (.iconst 2, 1) := by decide +kernel
theorem dX0_goOneRow_39 : decode cX0_goOneRow 39 = .ok (.goto 4, 3) := by decide +kernel
theorem dX0_goOneRow_42 : decode cX0_goOneRow 42 = .ok (.iconst 3, 1) := by decide +kernel
theorem dX0_goOneRow_43 : decode cX0_goOneRow 43 = .ok (.putfield 42, 3) := by decide +kernel
theorem dX0_goOneRow_46 : decode cX0_goOneRow 46 = .ok (.goto 41, 3) := by decide +kernel
theorem dX0_goOneRow_49 : decode cX0_goOneRow 49 = .ok (.aload_n 0, 1) := by decide +kernel
theorem dX0_goOneRow_50 : decode cX0_goOneRow 50 = .ok (.getfield 9, 3) := by decide +kernel
theorem dX0_goOneRow_53 : decode cX0_goOneRow 53 = .ok (.iload_n 1, 1) := by decide +kernel
theorem dX0_goOneRow_54 : decode cX0_goOneRow 54 = .ok (.invokestatic 72, 3) := by decide +kernel
theorem dX0_goOneRow_57 : decode cX0_goOneRow 57 = .ok (.ifCond .eq 25, 3) := by decide +kernel
theorem dX0_goOneRow_60 : decode cX0_goOneRow 60 = .ok (.aload_n 0, 1) := by decide +kernel
theorem dX0_goOneRow_61 : decode cX0_goOneRow 61 = .ok (.aload_n 0, 1) := by decide +kernel
theorem dX0_goOneRow_62 : decode cX0_goOneRow 62 = .ok (.getfield 24, 3) := by decide +kernel
theorem dX0_goOneRow_65 : decode cX0_goOneRow 65 = .ok (.ineg, 1) := by decide +kernel
theorem dX0_goOneRow_66 : decode cX0_goOneRow 66 = .ok (.putfield 24, 3) := by decide +kernel
theorem dX0_goOneRow_69 : decode cX0_goOneRow 69 = .ok (.aload_n 0, 1) := by decide +kernel
theorem dX0_goOneRow_70 : decode cX0_goOneRow 70 = .ok (.dup, 1) := by decide +kernel
theorem dX0_goOneRow_71 : decode cX0_goOneRow 71 = .ok (.getfield 36, 3) := by decide +kernel
theorem dX0_goOneRow_74 : decode cX0_goOneRow 74 = .ok (.iconst 1, 1) := by decide +kernel
theorem dX0_goOneRow_75 : decode cX0_goOneRow 75 = .ok (.iadd, 1) := by decide +kernel
theorem dX0_goOneRow_76 : decode cX0_goOneRow 76 = .ok (.putfield 36, 3) := by decide +kernel
theorem dX0_goOneRow_79 : decode cX0_goOneRow 79 = .ok (.goto 8, 3) := by decide +kernel
theorem dX0_goOneRow_82 : decode cX0_goOneRow 82 = .ok (.aload_n 0, 1) := by decide +kernel
theorem dX0_goOneRow_83 : decode cX0_goOneRow 83 = .ok (.iload_n 1, 1) := by decide +kernel
theorem dX0_goOneRow_84 : decode cX0_goOneRow 84 = .ok (.putfield 15, 3) := by decide +kernel
theorem dX0_goOneRow_87 : decode cX0_goOneRow 87 = .ok (.return_, 1) := by decide +kernel
theorem dX0_touchFront_0 : decode cX0_touchFront 0 = .ok (.aload_n 0, 1) := by decide +kernel
theorem dX0_touchFront_1 : decode cX0_touchFront 1 = .ok (.aload_n 0, 1) := by decide +kernel
theorem dX0_touchFront_2 : decode cX0_touchFront 2 = .ok (.getfield 24, 3) := by decide +kernel
theorem dX0_touchFront_5 : decode cX0_touchFront 5 = .ok (.ineg, 1) := by decide +kernel
theorem dX0_touchFront_6 : decode cX0_touchFront 6 = .ok (.putfield 24, 3) := by decide +kernel
theorem dX0_touchFront_9 : decode cX0_touchFront 9 = .ok (.aload_n 0, 1) := by decide +kernel
theorem dX0_touchFront_10 : decode cX0_touchFront 10 = .ok (.dup, 1) := by decide +kernel
theorem dX0_touchFront_11 : decode cX0_touchFront 11 = .ok (.getfield 30, 3) := by decide +kernel
theorem dX0_touchFront_14 : decode cX0_touchFront 14 = .ok (.iconst 1, 1) := by decide +kernel
theorem dX0_touchFront_15 : decode cX0_touchFront 15 = .ok (.iadd, 1) := by decide +kernel
theorem dX0_touchFront_16 : decode cX0_touchFront 16 = .ok (.putfield 30, 3) := by decide +kernel
theorem dX0_touchFront_19 : decode cX0_touchFront 19 = .ok (.aload_n 0, 1) := by decide +kernel
theorem dX0_touchFront_20 : decode cX0_touchFront 20 = .ok (.getfield 18, 3) := by decide +kernel
theorem dX0_touchFront_23 : decode cX0_touchFront 23 = .ok (.iconst 4, 1) := by decide +kernel
theorem dX0_touchFront_24 : decode cX0_touchFront 24 = .ok (.if_icmp .ge 8, 3) := by decide +kernel
theorem dX0_touchFront_27 : decode cX0_touchFront 27 = .ok (.aload_n 0, 1) := by decide +kernel
theorem dX0_touchFront_28 : decode cX0_touchFront 28 = .ok (.iconst 1, 1) := by decide +kernel
theorem dX0_touchFront_29 : decode cX0_touchFront 29 = .ok (.putfield 42, 3) := by decide +kernel
theorem dX0_touchFront_32 : decode cX0_touchFront 32 = .ok (.return_, 1) := by decide +kernel
theorem dX0_goUpOrDown_0 : decode cX0_goUpOrDown 0 = .ok (.aload_n 0, 1) := by decide +kernel
theorem dX0_goUpOrDown_1 : decode cX0_goUpOrDown 1 = .ok (.dup, 1) := by decide +kernel
theorem dX0_goUpOrDown_2 : decode cX0_goUpOrDown 2 = .ok (.getfield 18, 3) := by decide +kernel
theorem dX0_goUpOrDown_5 : decode cX0_goUpOrDown 5 = .ok (.aload_n 0, 1) := by decide +kernel
theorem dX0_goUpOrDown_6 : decode cX0_goUpOrDown 6 = .ok (.getfield 27, 3) := by decide +kernel
theorem dX0_goUpOrDown_9 : decode cX0_goUpOrDown 9 = .ok (.iadd, 1) := by decide +kernel
theorem dX0_goUpOrDown_10 : decode cX0_goUpOrDown 10 = .ok (.putfield 18, 3) := by decide +kernel
theorem dX0_goUpOrDown_13 : decode cX0_goUpOrDown 13 = .ok (.aload_n 0, 1) := by decide +kernel
theorem dX0_goUpOrDown_14 : decode cX0_goUpOrDown 14 = .ok (.dup, 1) := by decide +kernel
theorem dX0_goUpOrDown_15 : decode cX0_goUpOrDown 15 = .ok (.getfield 27, 3) := by decide +kernel
theorem dX0_goUpOrDown_18 : decode cX0_goUpOrDown 18 = .ok (.iconst 1, 1) := by decide +kernel
theorem dX0_goUpOrDown_19 : decode cX0_goUpOrDown 19 = .ok (.isub, 1) := by decide +kernel
theorem dX0_goUpOrDown_20 : decode cX0_goUpOrDown 20 = .ok (.putfield 27, 3) := by decide +kernel
theorem dX0_goUpOrDown_23 : decode cX0_goUpOrDown 23 = .ok (.aload_n 0, 1) := by decide +kernel
theorem dX0_goUpOrDown_24 : decode cX0_goUpOrDown 24 = .ok (.getfield 18, 3) := by decide +kernel
theorem dX0_goUpOrDown_27 : decode cX0_goUpOrDown 27 = .ok (.ifCond .gt 14, 3) := by decide +kernel
theorem dX0_goUpOrDown_30 : decode cX0_goUpOrDown 30 = .ok (.aload_n 0, 1) := by decide +kernel
theorem dX0_goUpOrDown_31 : decode cX0_goUpOrDown 31 = .ok (.getfield 27, 3) := by decide +kernel
theorem dX0_goUpOrDown_34 : decode cX0_goUpOrDown 34 = .ok (.ifCond .ge 7, 3) := by decide +kernel
theorem dX0_goUpOrDown_37 : decode cX0_goUpOrDown 37 = .ok (.aload_n 0, 1) := by decide +kernel
theorem dX0_goUpOrDown_38 : decode cX0_goUpOrDown 38 = .ok (.invokevirtual 82, 3) := by decide +kernel
theorem dX0_goUpOrDown_41 : decode cX0_goUpOrDown 41 = .ok (.return_, 1) := by decide +kernel
theorem dX0_bounce_0 : decode cX0_bounce 0 = .ok (.aload_n 0, 1) := by decide +kernel
theorem dX0_bounce_1 : decode cX0_bounce 1 = .ok (.iconst 0, 1) := by decide +kernel
theorem dX0_bounce_2 : decode cX0_bounce 2 = .ok (.putfield 18, 3) := by decide +kernel
theorem dX0_bounce_5 : decode cX0_bounce 5 = .ok (.aload_n 0, 1) := by decide +kernel
theorem dX0_bounce_6 : decode cX0_bounce 6 = .ok (.aload_n 0, 1) := by decide +kernel
theorem dX0_bounce_7 : decode cX0_bounce 7 = .ok (.getfield 27, 3) := by decide +kernel
theorem dX0_bounce_10 : decode cX0_bounce 10 = .ok (.ineg, 1) := by decide +kernel
theorem dX0_bounce_11 : decode cX0_bounce 11 = .ok (.iconst 2, 1) := by decide +kernel
theorem dX0_bounce_12 : decode cX0_bounce 12 = .ok (.idiv, 1) := by decide +kernel
theorem dX0_bounce_13 : decode cX0_bounce 13 = .ok (.putfield 27, 3) := by decide +kernel
theorem dX0_bounce_16 : decode cX0_bounce 16 = .ok (.aload_n 0, 1) := by decide +kernel
theorem dX0_bounce_17 : decode cX0_bounce 17 = .ok (.dup, 1) := by decide +kernel
theorem dX0_bounce_18 : decode cX0_bounce 18 = .ok (.getfield 33, 3) := by decide +kernel
theorem dX0_bounce_21 : decode cX0_bounce 21 = .ok (.iconst 1, 1) := by decide +kernel
theorem dX0_bounce_22 : decode cX0_bounce 22 = .ok (.iadd, 1) := by decide +kernel
theorem dX0_bounce_23 : decode cX0_bounce 23 = .ok (.putfield 33, 3) := by decide +kernel
theorem dX0_bounce_26 : decode cX0_bounce 26 = .ok (.aload_n 0, 1) := by decide +kernel
theorem dX0_bounce_27 : decode cX0_bounce 27 = .ok (.getfield 30, 3) := by decide +kernel
theorem dX0_bounce_30 : decode cX0_bounce 30 = .ok (.ifCond .ne 11, 3) := by decide +kernel
theorem dX0_bounce_33 : decode cX0_bounce 33 = .ok (.aload_n 0, 1) := by decide +kernel
theorem dX0_bounce_34 : decode cX0_bounce 34 = .ok (.iconst 1, 1) := by decide +kernel
theorem dX0_bounce_35 : decode cX0_bounce 35 = .ok (.putfield 42, 3) := by decide +kernel
theorem dX0_bounce_38 : decode cX0_bounce 38 = .ok (.goto 16, 3) := by decide +kernel
theorem dX0_bounce_41 : decode cX0_bounce 41 = .ok (.aload_n 0, 1) := by decide +kernel
theorem dX0_bounce_42 : decode cX0_bounce 42 = .ok (.getfield 33, 3) := by decide +kernel
theorem dX0_bounce_45 : decode cX0_bounce 45 = .ok (.iconst 2, 1) := by decide +kernel
theorem dX0_bounce_46 : decode cX0_bounce 46 = .ok (.if_icmp .ne 8, 3) := by decide +kernel
theorem dX0_bounce_49 : decode cX0_bounce 49 = .ok (.aload_n 0, 1) := by decide +kernel
theorem dX0_bounce_50 : decode cX0_bounce 50 = .ok (.iconst 3, 1) := by decide +kernel
theorem dX0_bounce_51 : decode cX0_bounce 51 = .ok (.putfield 42, 3) := by decide +kernel
theorem dX0_bounce_54 : decode cX0_bounce 54 = .ok (.return_, 1) := by decide +kernel
theorem dX0_isButtress_0 : decode cX0_isButtress 0 = .ok (.iload_n 0, 1) := by decide +kernel
theorem dX0_isButtress_1 : decode cX0_isButtress 1 = .ok (.iconst 1, 1) := by decide +kernel
theorem dX0_isButtress_2 : decode cX0_isButtress 2 = .ok (.if_icmp .gt 19, 3) := by decide +kernel
theorem dX0_isButtress_5 : decode cX0_isButtress 5 = .ok (.iload_n 1, 1) := by decide +kernel
theorem dX0_isButtress_6 : decode cX0_isButtress 6 = .ok (.bipush 10, 2) := by decide +kernel
theorem dX0_isButtress_8 : decode cX0_isButtress 8 = .ok (.if_icmp .lt 13, 3) := by decide +kernel
theorem dX0_isButtress_11 : decode cX0_isButtress 11 = .ok (.iload_n 1, 1) := by decide +kernel
theorem dX0_isButtress_12 : decode cX0_isButtress 12 = .ok (.bipush 12, 2) := by decide +kernel
theorem dX0_isButtress_14 : decode cX0_isButtress 14 = .ok (.if_icmp .gt 7, 3) := by decide +kernel
theorem dX0_isButtress_17 : decode cX0_isButtress 17 = .ok (.iconst 1, 1) := by decide +kernel
theorem dX0_isButtress_18 : decode cX0_isButtress 18 = .ok (.goto 4, 3) := by decide +kernel
theorem dX0_isButtress_21 : decode cX0_isButtress 21 = .ok (.iconst 0, 1) := by decide +kernel
theorem dX0_isButtress_22 : decode cX0_isButtress 22 = .ok (.ireturn, 1) := by decide +kernel
theorem dX0_part_0 : decode cX0_part 0 = .ok (.iload_n 1, 1) := by decide +kernel
theorem dX0_part_1 : decode cX0_part 1 = .ok (.tableswitch 87 0 7 #[47, 52, 57, 62, 67, 72, 77, 82], 47) := by decide +kernel
theorem dX0_part_48 : decode cX0_part 48 = .ok (.aload_n 0, 1) := by decide +kernel
theorem dX0_part_49 : decode cX0_part 49 = .ok (.getfield 9, 3) := by decide +kernel
theorem dX0_part_52 : decode cX0_part 52 = .ok (.ireturn, 1) := by decide +kernel
theorem dX0_part_53 : decode cX0_part 53 = .ok (.aload_n 0, 1) := by decide +kernel
theorem dX0_part_54 : decode cX0_part 54 = .ok (.getfield 15, 3) := by decide +kernel
theorem dX0_part_57 : decode cX0_part 57 = .ok (.ireturn, 1) := by decide +kernel
theorem dX0_part_58 : decode cX0_part 58 = .ok (.aload_n 0, 1) := by decide +kernel
theorem dX0_part_59 : decode cX0_part 59 = .ok (.getfield 18, 3) := by decide +kernel
theorem dX0_part_62 : decode cX0_part 62 = .ok (.ireturn, 1) := by decide +kernel
theorem dX0_part_63 : decode cX0_part 63 = .ok (.aload_n 0, 1) := by decide +kernel
theorem dX0_part_64 : decode cX0_part 64 = .ok (.getfield 21, 3) := by decide +kernel
theorem dX0_part_67 : decode cX0_part 67 = .ok (.ireturn, 1) := by decide +kernel
theorem dX0_part_68 : decode cX0_part 68 = .ok (.aload_n 0, 1) := by decide +kernel
theorem dX0_part_69 : decode cX0_part 69 = .ok (.getfield 24, 3) := by decide +kernel
theorem dX0_part_72 : decode cX0_part 72 = .ok (.ireturn, 1) := by decide +kernel
theorem dX0_part_73 : decode cX0_part 73 = .ok (.aload_n 0, 1) := by decide +kernel
theorem dX0_part_74 : decode cX0_part 74 = .ok (.getfield 27, 3) := by decide +kernel
theorem dX0_part_77 : decode cX0_part 77 = .ok (.ireturn, 1) := by decide +kernel
theorem dX0_part_78 : decode cX0_part 78 = .ok (.aload_n 0, 1) := by decide +kernel
theorem dX0_part_79 : decode cX0_part 79 = .ok (.getfield 30, 3) := by decide +kernel
theorem dX0_part_82 : decode cX0_part 82 = .ok (.ireturn, 1) := by decide +kernel
theorem dX0_part_83 : decode cX0_part 83 = .ok (.aload_n 0, 1) := by decide +kernel
theorem dX0_part_84 : decode cX0_part 84 = .ok (.getfield 33, 3) := by decide +kernel
theorem dX0_part_87 : decode cX0_part 87 = .ok (.ireturn, 1) := by decide +kernel
theorem dX0_part_88 : decode cX0_part 88 = .ok (.aload_n 0, 1) := by decide +kernel
theorem dX0_part_89 : decode cX0_part 89 = .ok (.getfield 36, 3) := by decide +kernel
theorem dX0_part_92 : decode cX0_part 92 = .ok (.ireturn, 1) := by decide +kernel
theorem dX0_endPart_0 : decode cX0_endPart 0 = .ok (.iload_n 1, 1) := by decide +kernel
theorem dX0_endPart_1 : decode cX0_endPart 1 = .ok (.tableswitch 51 0 3 #[31, 36, 41, 46], 31) := by decide +kernel
theorem dX0_endPart_32 : decode cX0_endPart 32 = .ok (.aload_n 0, 1) := by decide +kernel
theorem dX0_endPart_33 : decode cX0_endPart 33 = .ok (.getfield 42, 3) := by decide +kernel
theorem dX0_endPart_36 : decode cX0_endPart 36 = .ok (.ireturn, 1) := by decide +kernel
theorem dX0_endPart_37 : decode cX0_endPart 37 = .ok (.aload_n 0, 1) := by decide +kernel
theorem dX0_endPart_38 : decode cX0_endPart 38 = .ok (.getfield 39, 3) := by decide +kernel
theorem dX0_endPart_41 : decode cX0_endPart 41 = .ok (.ireturn, 1) := by decide +kernel
theorem dX0_endPart_42 : decode cX0_endPart 42 = .ok (.aload_n 0, 1) := by decide +kernel
theorem dX0_endPart_43 : decode cX0_endPart 43 = .ok (.getfield 30, 3) := by decide +kernel
theorem dX0_endPart_46 : decode cX0_endPart 46 = .ok (.ireturn, 1) := by decide +kernel
theorem dX0_endPart_47 : decode cX0_endPart 47 = .ok (.aload_n 0, 1) := by decide +kernel
theorem dX0_endPart_48 : decode cX0_endPart 48 = .ok (.getfield 33, 3) := by decide +kernel
theorem dX0_endPart_51 : decode cX0_endPart 51 = .ok (.ireturn, 1) := by decide +kernel
theorem dX0_endPart_52 : decode cX0_endPart 52 = .ok (.aload_n 0, 1) := by decide +kernel
theorem dX0_endPart_53 : decode cX0_endPart 53 = .ok (.getfield 36, 3) := by decide +kernel
theorem dX0_endPart_56 : decode cX0_endPart 56 = .ok (.ireturn, 1) := by decide +kernel
theorem dX1_init_0 : decode cX1_init 0 = .ok (.aload_n 0, 1) := by decide +kernel
theorem dX1_init_1 : decode cX1_init 1 = .ok (.invokespecial 1, 3) := by decide +kernel
theorem dX1_init_4 : decode cX1_init 4 = .ok (.return_, 1) := by decide +kernel
theorem dX1_part_0 : decode cX1_part 0 = .ok (.iload_n 1, 1) := by decide +kernel
theorem dX1_part_1 : decode cX1_part 1 = .ok (.tableswitch 42 0 2 #[27, 32, 37], 27) := by decide +kernel
theorem dX1_part_28 : decode cX1_part 28 = .ok (.aload_n 0, 1) := by decide +kernel
theorem dX1_part_29 : decode cX1_part 29 = .ok (.getfield 7, 3) := by decide +kernel
theorem dX1_part_32 : decode cX1_part 32 = .ok (.ireturn, 1) := by decide +kernel
theorem dX1_part_33 : decode cX1_part 33 = .ok (.aload_n 0, 1) := by decide +kernel
theorem dX1_part_34 : decode cX1_part 34 = .ok (.getfield 13, 3) := by decide +kernel
theorem dX1_part_37 : decode cX1_part 37 = .ok (.ireturn, 1) := by decide +kernel
theorem dX1_part_38 : decode cX1_part 38 = .ok (.aload_n 0, 1) := by decide +kernel
theorem dX1_part_39 : decode cX1_part 39 = .ok (.getfield 16, 3) := by decide +kernel
theorem dX1_part_42 : decode cX1_part 42 = .ok (.ireturn, 1) := by decide +kernel
theorem dX1_part_43 : decode cX1_part 43 = .ok (.aload_n 0, 1) := by decide +kernel
theorem dX1_part_44 : decode cX1_part 44 = .ok (.getfield 19, 3) := by decide +kernel
theorem dX1_part_47 : decode cX1_part 47 = .ok (.ireturn, 1) := by decide +kernel
theorem dX1_beginMatch_0 : decode cX1_beginMatch 0 = .ok (.aload_n 0, 1) := by decide +kernel
theorem dX1_beginMatch_1 : decode cX1_beginMatch 1 = .ok (.iconst 0, 1) := by decide +kernel
theorem dX1_beginMatch_2 : decode cX1_beginMatch 2 = .ok (.putfield 13, 3) := by decide +kernel
theorem dX1_beginMatch_5 : decode cX1_beginMatch 5 = .ok (.aload_n 0, 1) := by decide +kernel
theorem dX1_beginMatch_6 : decode cX1_beginMatch 6 = .ok (.iconst 0, 1) := by decide +kernel
theorem dX1_beginMatch_7 : decode cX1_beginMatch 7 = .ok (.putfield 16, 3) := by decide +kernel
theorem dX1_beginMatch_10 : decode cX1_beginMatch 10 = .ok (.aload_n 0, 1) := by decide +kernel
theorem dX1_beginMatch_11 : decode cX1_beginMatch 11 = .ok (.iconst 0, 1) := by decide +kernel
theorem dX1_beginMatch_12 : decode cX1_beginMatch 12 = .ok (.putfield 19, 3) := by decide +kernel
theorem dX1_beginMatch_15 : decode cX1_beginMatch 15 = .ok (.return_, 1) := by decide +kernel
theorem dX2_init_0 : decode cX2_init 0 = .ok (.aload_n 0, 1) := by decide +kernel
theorem dX2_init_1 : decode cX2_init 1 = .ok (.invokespecial 1, 3) := by decide +kernel
theorem dX2_init_4 : decode cX2_init 4 = .ok (.aload_n 0, 1) := by decide +kernel
theorem dX2_init_5 : decode cX2_init 5 = .ok (.new 7, 3) := by decide +kernel
theorem dX2_init_8 : decode cX2_init 8 = .ok (.dup, 1) := by decide +kernel
theorem dX2_init_9 : decode cX2_init 9 = .ok (.invokespecial 9, 3) := by decide +kernel
theorem dX2_init_12 : decode cX2_init 12 = .ok (.putfield 10, 3) := by decide +kernel
theorem dX2_init_15 : decode cX2_init 15 = .ok (.aload_n 0, 1) := by decide +kernel
theorem dX2_init_16 : decode cX2_init 16 = .ok (.new 7, 3) := by decide +kernel
theorem dX2_init_19 : decode cX2_init 19 = .ok (.dup, 1) := by decide +kernel
theorem dX2_init_20 : decode cX2_init 20 = .ok (.invokespecial 9, 3) := by decide +kernel
theorem dX2_init_23 : decode cX2_init 23 = .ok (.putfield 16, 3) := by decide +kernel
theorem dX2_init_26 : decode cX2_init 26 = .ok (.aload_n 0, 1) := by decide +kernel
theorem dX2_init_27 : decode cX2_init 27 = .ok (.new 19, 3) := by decide +kernel
theorem dX2_init_30 : decode cX2_init 30 = .ok (.dup, 1) := by decide +kernel
theorem dX2_init_31 : decode cX2_init 31 = .ok (.invokespecial 21, 3) := by decide +kernel
theorem dX2_init_34 : decode cX2_init 34 = .ok (.putfield 22, 3) := by decide +kernel
theorem dX2_init_37 : decode cX2_init 37 = .ok (.aload_n 0, 1) := by decide +kernel
theorem dX2_init_38 : decode cX2_init 38 = .ok (.new 19, 3) := by decide +kernel
theorem dX2_init_41 : decode cX2_init 41 = .ok (.dup, 1) := by decide +kernel
theorem dX2_init_42 : decode cX2_init 42 = .ok (.invokespecial 21, 3) := by decide +kernel
theorem dX2_init_45 : decode cX2_init 45 = .ok (.putfield 26, 3) := by decide +kernel
theorem dX2_init_48 : decode cX2_init 48 = .ok (.aload_n 0, 1) := by decide +kernel
theorem dX2_init_49 : decode cX2_init 49 = .ok (.new 19, 3) := by decide +kernel
theorem dX2_init_52 : decode cX2_init 52 = .ok (.dup, 1) := by decide +kernel
theorem dX2_init_53 : decode cX2_init 53 = .ok (.invokespecial 21, 3) := by decide +kernel
theorem dX2_init_56 : decode cX2_init 56 = .ok (.putfield 29, 3) := by decide +kernel
theorem dX2_init_59 : decode cX2_init 59 = .ok (.aload_n 0, 1) := by decide +kernel
theorem dX2_init_60 : decode cX2_init 60 = .ok (.new 19, 3) := by decide +kernel
theorem dX2_init_63 : decode cX2_init 63 = .ok (.dup, 1) := by decide +kernel
theorem dX2_init_64 : decode cX2_init 64 = .ok (.invokespecial 21, 3) := by decide +kernel
theorem dX2_init_67 : decode cX2_init 67 = .ok (.putfield 32, 3) := by decide +kernel
theorem dX2_init_70 : decode cX2_init 70 = .ok (.aload_n 0, 1) := by decide +kernel
theorem dX2_init_71 : decode cX2_init 71 = .ok (.iconst 0, 1) := by decide +kernel
theorem dX2_init_72 : decode cX2_init 72 = .ok (.putfield 35, 3) := by decide +kernel
theorem dX2_init_75 : decode cX2_init 75 = .ok (.aload_n 0, 1) := by decide +kernel
theorem dX2_init_76 : decode cX2_init 76 = .ok (.bipush 12, 2) := by decide +kernel
theorem dX2_init_78 : decode cX2_init 78 = .ok (.putfield 39, 3) := by decide +kernel
theorem dX2_init_81 : decode cX2_init 81 = .ok (.aload_n 0, 1) := by decide +kernel
theorem dX2_init_82 : decode cX2_init 82 = .ok (.iconst (-1), 1) := by decide +kernel
theorem dX2_init_83 : decode cX2_init 83 = .ok (.putfield 42, 3) := by decide +kernel
theorem dX2_init_86 : decode cX2_init 86 = .ok (.return_, 1) := by decide +kernel
theorem dX2_serve_0 : decode cX2_serve 0 = .ok (.iload_n 1, 1) := by decide +kernel
theorem dX2_serve_1 : decode cX2_serve 1 = .ok (.iload_n 2, 1) := by decide +kernel
theorem dX2_serve_2 : decode cX2_serve 2 = .ok (.iload_n 3, 1) := by decide +kernel
theorem dX2_serve_3 : decode cX2_serve 3 = .ok (.invokestatic 45, 3) := by decide +kernel
theorem dX2_serve_6 : decode cX2_serve 6 = .ok (.ifCond .ne 13, 3) := by decide +kernel
theorem dX2_serve_9 : decode cX2_serve 9 = .ok (.new 49, 3) := by decide +kernel
theorem dX2_serve_12 : decode cX2_serve 12 = .ok (.dup, 1) := by decide +kernel
theorem dX2_serve_13 : decode cX2_serve 13 = .ok (.ldc 51, 2) := by decide +kernel
theorem dX2_serve_15 : decode cX2_serve 15 = .ok (.invokespecial 53, 3) := by decide +kernel
theorem dX2_serve_18 : decode cX2_serve 18 = .ok (.athrow, 1) := by decide +kernel
theorem dX2_serve_19 : decode cX2_serve 19 = .ok (.aload_n 0, 1) := by decide +kernel
theorem dX2_serve_20 : decode cX2_serve 20 = .ok (.getfield 56, 3) := by decide +kernel
theorem dX2_serve_23 : decode cX2_serve 23 = .ok (.ifCond .ne 10, 3) := by decide +kernel
theorem dX2_serve_26 : decode cX2_serve 26 = .ok (.aload_n 0, 1) := by decide +kernel
theorem dX2_serve_27 : decode cX2_serve 27 = .ok (.invokevirtual 60, 3) := by decide +kernel
theorem dX2_serve_30 : decode cX2_serve 30 = .ok (.ifCond .eq 13, 3) := by decide +kernel
theorem dX2_serve_33 : decode cX2_serve 33 = .ok (.new 64, 3) := by decide +kernel
theorem dX2_serve_36 : decode cX2_serve 36 = .ok (.dup, 1) := by decide +kernel
theorem dX2_serve_37 : decode cX2_serve 37 = .ok (.ldc 66, 2) := by decide +kernel
theorem dX2_serve_39 : decode cX2_serve 39 = .ok (.invokespecial 68, 3) := by decide +kernel
theorem dX2_serve_42 : decode cX2_serve 42 = .ok (.athrow, 1) := by decide +kernel
theorem dX2_serve_43 : decode cX2_serve 43 = .ok (.aload_n 0, 1) := by decide +kernel
theorem dX2_serve_44 : decode cX2_serve 44 = .ok (.getfield 22, 3) := by decide +kernel
theorem dX2_serve_47 : decode cX2_serve 47 = .ok (.invokevirtual 69, 3) := by decide +kernel
theorem dX2_serve_50 : decode cX2_serve 50 = .ok (.aload_n 0, 1) := by decide +kernel
theorem dX2_serve_51 : decode cX2_serve 51 = .ok (.iconst 1, 1) := by decide +kernel
theorem dX2_serve_52 : decode cX2_serve 52 = .ok (.putfield 56, 3) := by decide +kernel
theorem dX2_serve_55 : decode cX2_serve 55 = .ok (.aload_n 0, 1) := by decide +kernel
theorem dX2_serve_56 : decode cX2_serve 56 = .ok (.aload_n 0, 1) := by decide +kernel
theorem dX2_serve_57 : decode cX2_serve 57 = .ok (.getfield 35, 3) := by decide +kernel
theorem dX2_serve_60 : decode cX2_serve 60 = .ok (.iload_n 1, 1) := by decide +kernel
theorem dX2_serve_61 : decode cX2_serve 61 = .ok (.iload_n 2, 1) := by decide +kernel
theorem dX2_serve_62 : decode cX2_serve 62 = .ok (.iload_n 3, 1) := by decide +kernel
theorem dX2_serve_63 : decode cX2_serve 63 = .ok (.invokevirtual 72, 3) := by decide +kernel
theorem dX2_serve_66 : decode cX2_serve 66 = .ok (.aload_n 0, 1) := by decide +kernel
theorem dX2_serve_67 : decode cX2_serve 67 = .ok (.getfield 35, 3) := by decide +kernel
theorem dX2_serve_70 : decode cX2_serve 70 = .ok (.ireturn, 1) := by decide +kernel
theorem dX2_strike_0 : decode cX2_strike 0 = .ok (.iload_n 1, 1) := by decide +kernel
theorem dX2_strike_1 : decode cX2_strike 1 = .ok (.iconst 1, 1) := by decide +kernel
theorem dX2_strike_2 : decode cX2_strike 2 = .ok (.if_icmp .lt 19, 3) := by decide +kernel
theorem dX2_strike_5 : decode cX2_strike 5 = .ok (.iload_n 1, 1) := by decide +kernel
theorem dX2_strike_6 : decode cX2_strike 6 = .ok (.bipush 60, 2) := by decide +kernel
theorem dX2_strike_8 : decode cX2_strike 8 = .ok (.if_icmp .gt 13, 3) := by decide +kernel
theorem dX2_strike_11 : decode cX2_strike 11 = .ok (.iload_n 2, 1) := by decide +kernel
theorem dX2_strike_12 : decode cX2_strike 12 = .ok (.iload_n 3, 1) := by decide +kernel
theorem dX2_strike_13 : decode cX2_strike 13 = .ok (.iload 4, 2) := by decide +kernel
theorem dX2_strike_15 : decode cX2_strike 15 = .ok (.invokestatic 45, 3) := by decide +kernel
theorem dX2_strike_18 : decode cX2_strike 18 = .ok (.ifCond .ne 13, 3) := by decide +kernel
theorem dX2_strike_21 : decode cX2_strike 21 = .ok (.new 49, 3) := by decide +kernel
theorem dX2_strike_24 : decode cX2_strike 24 = .ok (.dup, 1) := by decide +kernel
theorem dX2_strike_25 : decode cX2_strike 25 = .ok (.ldc 51, 2) := by decide +kernel
theorem dX2_strike_27 : decode cX2_strike 27 = .ok (.invokespecial 53, 3) := by decide +kernel
theorem dX2_strike_30 : decode cX2_strike 30 = .ok (.athrow, 1) := by decide +kernel
theorem dX2_strike_31 : decode cX2_strike 31 = .ok (.aload_n 0, 1) := by decide +kernel
theorem dX2_strike_32 : decode cX2_strike 32 = .ok (.getfield 56, 3) := by decide +kernel
theorem dX2_strike_35 : decode cX2_strike 35 = .ok (.ifCond .ne 13, 3) := by decide +kernel
theorem dX2_strike_38 : decode cX2_strike 38 = .ok (.new 64, 3) := by decide +kernel
theorem dX2_strike_41 : decode cX2_strike 41 = .ok (.dup, 1) := by decide +kernel
theorem dX2_strike_42 : decode cX2_strike 42 = .ok (.ldc 76, 2) := by decide +kernel
theorem dX2_strike_44 : decode cX2_strike 44 = .ok (.invokespecial 68, 3) := by decide +kernel
theorem dX2_strike_47 : decode cX2_strike 47 = .ok (.athrow, 1) := by decide +kernel
theorem dX2_strike_48 : decode cX2_strike 48 = .ok (.aload_n 0, 1) := by decide +kernel
theorem dX2_strike_49 : decode cX2_strike 49 = .ok (.iload_n 1, 1) := by decide +kernel
theorem dX2_strike_50 : decode cX2_strike 50 = .ok (.invokevirtual 78, 3) := by decide +kernel
theorem dX2_strike_53 : decode cX2_strike 53 = .ok (.ifCond .eq 12, 3) := by decide +kernel
theorem dX2_strike_56 : decode cX2_strike 56 = .ok (.aload_n 0, 1) := by decide +kernel
theorem dX2_strike_57 : decode cX2_strike 57 = .ok (.aload_n 0, 1) := by decide +kernel
theorem dX2_strike_58 : decode cX2_strike 58 = .ok (.invokevirtual 82, 3) := by decide +kernel
theorem dX2_strike_61 : decode cX2_strike 61 = .ok (.invokevirtual 86, 3) := by decide +kernel
theorem dX2_strike_64 : decode cX2_strike 64 = .ok (.ireturn, 1) := by decide +kernel
theorem dX2_strike_65 : decode cX2_strike 65 = .ok (.aload_n 0, 1) := by decide +kernel
theorem dX2_strike_66 : decode cX2_strike 66 = .ok (.iload_n 1, 1) := by decide +kernel
theorem dX2_strike_67 : decode cX2_strike 67 = .ok (.invokevirtual 90, 3) := by decide +kernel
theorem dX2_strike_70 : decode cX2_strike 70 = .ok (.aload_n 0, 1) := by decide +kernel
theorem dX2_strike_71 : decode cX2_strike 71 = .ok (.getfield 29, 3) := by decide +kernel
theorem dX2_strike_74 : decode cX2_strike 74 = .ok (.getfield 94, 3) := by decide +kernel
theorem dX2_strike_77 : decode cX2_strike 77 = .ok (.ifCond .ne 9, 3) := by decide +kernel
theorem dX2_strike_80 : decode cX2_strike 80 = .ok (.aload_n 0, 1) := by decide +kernel
theorem dX2_strike_81 : decode cX2_strike 81 = .ok (.invokevirtual 97, 3) := by decide +kernel
theorem dX2_strike_84 : decode cX2_strike 84 = .ok (.iconst 1, 1) := by decide +kernel
theorem dX2_strike_85 : decode cX2_strike 85 = .ok (.ireturn, 1) := by decide +kernel
theorem dX2_strike_86 : decode cX2_strike 86 = .ok (.aload_n 0, 1) := by decide +kernel
theorem dX2_strike_87 : decode cX2_strike 87 = .ok (.getfield 22, 3) := by decide +kernel
theorem dX2_strike_90 : decode cX2_strike 90 = .ok (.aload_n 0, 1) := by decide +kernel
theorem dX2_strike_91 : decode cX2_strike 91 = .ok (.getfield 29, 3) := by decide +kernel
theorem dX2_strike_94 : decode cX2_strike 94 = .ok (.invokevirtual 100, 3) := by decide +kernel
theorem dX2_strike_97 : decode cX2_strike 97 = .ok (.aload_n 0, 1) := by decide +kernel
theorem dX2_strike_98 : decode cX2_strike 98 = .ok (.aload_n 0, 1) := by decide +kernel
theorem dX2_strike_99 : decode cX2_strike 99 = .ok (.invokevirtual 104, 3) := by decide +kernel
theorem dX2_strike_102 : decode cX2_strike 102 = .ok (.iload_n 2, 1) := by decide +kernel
theorem dX2_strike_103 : decode cX2_strike 103 = .ok (.iload_n 3, 1) := by decide +kernel
theorem dX2_strike_104 : decode cX2_strike 104 = .ok (.iload 4, 2) := by decide +kernel
theorem dX2_strike_106 : decode cX2_strike 106 = .ok (.invokevirtual 72, 3) := by decide +kernel
theorem dX2_strike_109 : decode cX2_strike 109 = .ok (.iconst 0, 1) := by decide +kernel
theorem dX2_strike_110 : decode cX2_strike 110 = .ok (.ireturn, 1) := by decide +kernel
theorem dX2_leave_0 : decode cX2_leave 0 = .ok (.aload_n 0, 1) := by decide +kernel
theorem dX2_leave_1 : decode cX2_leave 1 = .ok (.getfield 56, 3) := by decide +kernel
theorem dX2_leave_4 : decode cX2_leave 4 = .ok (.ifCond .ne 13, 3) := by decide +kernel
theorem dX2_leave_7 : decode cX2_leave 7 = .ok (.new 64, 3) := by decide +kernel
theorem dX2_leave_10 : decode cX2_leave 10 = .ok (.dup, 1) := by decide +kernel
theorem dX2_leave_11 : decode cX2_leave 11 = .ok (.ldc 76, 2) := by decide +kernel
theorem dX2_leave_13 : decode cX2_leave 13 = .ok (.invokespecial 68, 3) := by decide +kernel
theorem dX2_leave_16 : decode cX2_leave 16 = .ok (.athrow, 1) := by decide +kernel
theorem dX2_leave_17 : decode cX2_leave 17 = .ok (.aload_n 0, 1) := by decide +kernel
theorem dX2_leave_18 : decode cX2_leave 18 = .ok (.aload_n 0, 1) := by decide +kernel
theorem dX2_leave_19 : decode cX2_leave 19 = .ok (.invokevirtual 82, 3) := by decide +kernel
theorem dX2_leave_22 : decode cX2_leave 22 = .ok (.invokevirtual 86, 3) := by decide +kernel
theorem dX2_leave_25 : decode cX2_leave 25 = .ok (.ireturn, 1) := by decide +kernel
theorem dX2_let_0 : decode cX2_let 0 = .ok (.aload_n 0, 1) := by decide +kernel
theorem dX2_let_1 : decode cX2_let 1 = .ok (.getfield 56, 3) := by decide +kernel
theorem dX2_let_4 : decode cX2_let 4 = .ok (.ifCond .ne 13, 3) := by decide +kernel
theorem dX2_let_7 : decode cX2_let 7 = .ok (.new 64, 3) := by decide +kernel
theorem dX2_let_10 : decode cX2_let 10 = .ok (.dup, 1) := by decide +kernel
theorem dX2_let_11 : decode cX2_let 11 = .ok (.ldc 76, 2) := by decide +kernel
theorem dX2_let_13 : decode cX2_let 13 = .ok (.invokespecial 68, 3) := by decide +kernel
theorem dX2_let_16 : decode cX2_let 16 = .ok (.athrow, 1) := by decide +kernel
theorem dX2_let_17 : decode cX2_let 17 = .ok (.aload_n 0, 1) := by decide +kernel
theorem dX2_let_18 : decode cX2_let 18 = .ok (.getfield 107, 3) := by decide +kernel
theorem dX2_let_21 : decode cX2_let 21 = .ok (.istore_n 1, 1) := by decide +kernel
theorem dX2_let_22 : decode cX2_let 22 = .ok (.aload_n 0, 1) := by decide +kernel
theorem dX2_let_23 : decode cX2_let 23 = .ok (.invokevirtual 97, 3) := by decide +kernel
theorem dX2_let_26 : decode cX2_let 26 = .ok (.iload_n 1, 1) := by decide +kernel
theorem dX2_let_27 : decode cX2_let 27 = .ok (.ireturn, 1) := by decide +kernel
theorem dX2_set_0 : decode cX2_set 0 = .ok (.iload_n 1, 1) := by decide +kernel
theorem dX2_set_1 : decode cX2_set 1 = .ok (.iconst 3, 1) := by decide +kernel
theorem dX2_set_2 : decode cX2_set 2 = .ok (.if_icmp .eq 18, 3) := by decide +kernel
theorem dX2_set_5 : decode cX2_set 5 = .ok (.iload_n 1, 1) := by decide +kernel
theorem dX2_set_6 : decode cX2_set 6 = .ok (.iconst 5, 1) := by decide +kernel
theorem dX2_set_7 : decode cX2_set 7 = .ok (.if_icmp .eq 13, 3) := by decide +kernel
theorem dX2_set_10 : decode cX2_set 10 = .ok (.new 49, 3) := by decide +kernel
theorem dX2_set_13 : decode cX2_set 13 = .ok (.dup, 1) := by decide +kernel
theorem dX2_set_14 : decode cX2_set 14 = .ok (.ldc 110, 2) := by decide +kernel
theorem dX2_set_16 : decode cX2_set 16 = .ok (.invokespecial 53, 3) := by decide +kernel
theorem dX2_set_19 : decode cX2_set 19 = .ok (.athrow, 1) := by decide +kernel
theorem dX2_set_20 : decode cX2_set 20 = .ok (.aload_n 0, 1) := by decide +kernel
theorem dX2_set_21 : decode cX2_set 21 = .ok (.invokevirtual 112, 3) := by decide +kernel
theorem dX2_set_24 : decode cX2_set 24 = .ok (.ifCond .ne 13, 3) := by decide +kernel
theorem dX2_set_27 : decode cX2_set 27 = .ok (.new 64, 3) := by decide +kernel
theorem dX2_set_30 : decode cX2_set 30 = .ok (.dup, 1) := by decide +kernel
theorem dX2_set_31 : decode cX2_set 31 = .ok (.ldc 115, 2) := by decide +kernel
theorem dX2_set_33 : decode cX2_set 33 = .ok (.invokespecial 68, 3) := by decide +kernel
theorem dX2_set_36 : decode cX2_set 36 = .ok (.athrow, 1) := by decide +kernel
theorem dX2_set_37 : decode cX2_set 37 = .ok (.aload_n 0, 1) := by decide +kernel
theorem dX2_set_38 : decode cX2_set 38 = .ok (.aload_n 0, 1) := by decide +kernel
theorem dX2_set_39 : decode cX2_set 39 = .ok (.getfield 10, 3) := by decide +kernel
theorem dX2_set_42 : decode cX2_set 42 = .ok (.getfield 117, 3) := by decide +kernel
theorem dX2_set_45 : decode cX2_set 45 = .ok (.iload_n 1, 1) := by decide +kernel
theorem dX2_set_46 : decode cX2_set 46 = .ok (.iadd, 1) := by decide +kernel
theorem dX2_set_47 : decode cX2_set 47 = .ok (.putfield 39, 3) := by decide +kernel
theorem dX2_set_50 : decode cX2_set 50 = .ok (.aload_n 0, 1) := by decide +kernel
theorem dX2_set_51 : decode cX2_set 51 = .ok (.getfield 39, 3) := by decide +kernel
theorem dX2_set_54 : decode cX2_set 54 = .ok (.ireturn, 1) := by decide +kernel
theorem dX2_match_0 : decode cX2_match 0 = .ok (.iload_n 1, 1) := by decide +kernel
theorem dX2_match_1 : decode cX2_match 1 = .ok (.invokestatic 120, 3) := by decide +kernel
theorem dX2_match_4 : decode cX2_match 4 = .ok (.ifCond .ne 13, 3) := by decide +kernel
theorem dX2_match_7 : decode cX2_match 7 = .ok (.new 123, 3) := by decide +kernel
theorem dX2_match_10 : decode cX2_match 10 = .ok (.dup, 1) := by decide +kernel
theorem dX2_match_11 : decode cX2_match 11 = .ok (.ldc 125, 2) := by decide +kernel
theorem dX2_match_13 : decode cX2_match 13 = .ok (.invokespecial 127, 3) := by decide +kernel
theorem dX2_match_16 : decode cX2_match 16 = .ok (.athrow, 1) := by decide +kernel
theorem dX2_match_17 : decode cX2_match 17 = .ok (.aload_n 0, 1) := by decide +kernel
theorem dX2_match_18 : decode cX2_match 18 = .ok (.getfield 10, 3) := by decide +kernel
theorem dX2_match_21 : decode cX2_match 21 = .ok (.getfield 128, 3) := by decide +kernel
theorem dX2_match_24 : decode cX2_match 24 = .ok (.aload_n 0, 1) := by decide +kernel
theorem dX2_match_25 : decode cX2_match 25 = .ok (.getfield 16, 3) := by decide +kernel
theorem dX2_match_28 : decode cX2_match 28 = .ok (.getfield 128, 3) := by decide +kernel
theorem dX2_match_31 : decode cX2_match 31 = .ok (.iadd, 1) := by decide +kernel
theorem dX2_match_32 : decode cX2_match 32 = .ok (.istore_n 2, 1) := by decide +kernel
theorem dX2_match_33 : decode cX2_match 33 = .ok (.aload_n 0, 1) := by decide +kernel
theorem dX2_match_34 : decode cX2_match 34 = .ok (.invokevirtual 131, 3) := by decide +kernel
theorem dX2_match_37 : decode cX2_match 37 = .ok (.aload_n 0, 1) := by decide +kernel
theorem dX2_match_38 : decode cX2_match 38 = .ok (.invokevirtual 134, 3) := by decide +kernel
theorem dX2_match_41 : decode cX2_match 41 = .ok (.aload_n 0, 1) := by decide +kernel
theorem dX2_match_42 : decode cX2_match 42 = .ok (.getfield 10, 3) := by decide +kernel
theorem dX2_match_45 : decode cX2_match 45 = .ok (.invokevirtual 137, 3) := by decide +kernel
theorem dX2_match_48 : decode cX2_match 48 = .ok (.aload_n 0, 1) := by decide +kernel
theorem dX2_match_49 : decode cX2_match 49 = .ok (.getfield 16, 3) := by decide +kernel
theorem dX2_match_52 : decode cX2_match 52 = .ok (.invokevirtual 137, 3) := by decide +kernel
theorem dX2_match_55 : decode cX2_match 55 = .ok (.aload_n 0, 1) := by decide +kernel
theorem dX2_match_56 : decode cX2_match 56 = .ok (.iconst (-1), 1) := by decide +kernel
theorem dX2_match_57 : decode cX2_match 57 = .ok (.putfield 42, 3) := by decide +kernel
theorem dX2_match_60 : decode cX2_match 60 = .ok (.aload_n 0, 1) := by decide +kernel
theorem dX2_match_61 : decode cX2_match 61 = .ok (.iload_n 1, 1) := by decide +kernel
theorem dX2_match_62 : decode cX2_match 62 = .ok (.putfield 35, 3) := by decide +kernel
theorem dX2_match_65 : decode cX2_match 65 = .ok (.iload_n 2, 1) := by decide +kernel
theorem dX2_match_66 : decode cX2_match 66 = .ok (.ireturn, 1) := by decide +kernel
theorem dX2_ball_0 : decode cX2_ball 0 = .ok (.iload_n 1, 1) := by decide +kernel
theorem dX2_ball_1 : decode cX2_ball 1 = .ok (.ifCond .lt 9, 3) := by decide +kernel
theorem dX2_ball_4 : decode cX2_ball 4 = .ok (.iload_n 1, 1) := by decide +kernel
theorem dX2_ball_5 : decode cX2_ball 5 = .ok (.bipush 6, 2) := by decide +kernel
theorem dX2_ball_7 : decode cX2_ball 7 = .ok (.if_icmp .lt 13, 3) := by decide +kernel
theorem dX2_ball_10 : decode cX2_ball 10 = .ok (.new 123, 3) := by decide +kernel
theorem dX2_ball_13 : decode cX2_ball 13 = .ok (.dup, 1) := by decide +kernel
theorem dX2_ball_14 : decode cX2_ball 14 = .ok (.ldc 140, 2) := by decide +kernel
theorem dX2_ball_16 : decode cX2_ball 16 = .ok (.invokespecial 127, 3) := by decide +kernel
theorem dX2_ball_19 : decode cX2_ball 19 = .ok (.athrow, 1) := by decide +kernel
theorem dX2_ball_20 : decode cX2_ball 20 = .ok (.aload_n 0, 1) := by decide +kernel
theorem dX2_ball_21 : decode cX2_ball 21 = .ok (.getfield 56, 3) := by decide +kernel
theorem dX2_ball_24 : decode cX2_ball 24 = .ok (.ifCond .eq 14, 3) := by decide +kernel
theorem dX2_ball_27 : decode cX2_ball 27 = .ok (.aload_n 0, 1) := by decide +kernel
theorem dX2_ball_28 : decode cX2_ball 28 = .ok (.getfield 22, 3) := by decide +kernel
theorem dX2_ball_31 : decode cX2_ball 31 = .ok (.iload_n 1, 1) := by decide +kernel
theorem dX2_ball_32 : decode cX2_ball 32 = .ok (.invokevirtual 142, 3) := by decide +kernel
theorem dX2_ball_35 : decode cX2_ball 35 = .ok (.goto 4, 3) := by decide +kernel
theorem dX2_ball_38 : decode cX2_ball 38 = .ok (.iconst 0, 1) := by decide +kernel
theorem dX2_ball_39 : decode cX2_ball 39 = .ok (.ireturn, 1) := by decide +kernel
theorem dX2_told_0 : decode cX2_told 0 = .ok (.iload_n 1, 1) := by decide +kernel
theorem dX2_told_1 : decode cX2_told 1 = .ok (.invokestatic 120, 3) := by decide +kernel
theorem dX2_told_4 : decode cX2_told 4 = .ok (.ifCond .eq 12, 3) := by decide +kernel
theorem dX2_told_7 : decode cX2_told 7 = .ok (.iload_n 2, 1) := by decide +kernel
theorem dX2_told_8 : decode cX2_told 8 = .ok (.ifCond .lt 8, 3) := by decide +kernel
theorem dX2_told_11 : decode cX2_told 11 = .ok (.iload_n 2, 1) := by decide +kernel
theorem dX2_told_12 : decode cX2_told 12 = .ok (.iconst 4, 1) := by decide +kernel
theorem dX2_told_13 : decode cX2_told 13 = .ok (.if_icmp .lt 13, 3) := by decide +kernel
theorem dX2_told_16 : decode cX2_told 16 = .ok (.new 123, 3) := by decide +kernel
theorem dX2_told_19 : decode cX2_told 19 = .ok (.dup, 1) := by decide +kernel
theorem dX2_told_20 : decode cX2_told 20 = .ok (.ldc 145, 2) := by decide +kernel
theorem dX2_told_22 : decode cX2_told 22 = .ok (.invokespecial 127, 3) := by decide +kernel
theorem dX2_told_25 : decode cX2_told 25 = .ok (.athrow, 1) := by decide +kernel
theorem dX2_told_26 : decode cX2_told 26 = .ok (.aload_n 0, 1) := by decide +kernel
theorem dX2_told_27 : decode cX2_told 27 = .ok (.iload_n 1, 1) := by decide +kernel
theorem dX2_told_28 : decode cX2_told 28 = .ok (.invokevirtual 147, 3) := by decide +kernel
theorem dX2_told_31 : decode cX2_told 31 = .ok (.iload_n 2, 1) := by decide +kernel
theorem dX2_told_32 : decode cX2_told 32 = .ok (.invokevirtual 151, 3) := by decide +kernel
theorem dX2_told_35 : decode cX2_told 35 = .ok (.ireturn, 1) := by decide +kernel
theorem dX2_count_0 : decode cX2_count 0 = .ok (.iload_n 1, 1) := by decide +kernel
theorem dX2_count_1 : decode cX2_count 1 = .ok (.tableswitch 115 0 8 #[51, 56, 72, 77, 82, 87, 92, 105, 110], 51) := by decide +kernel
theorem dX2_count_52 : decode cX2_count 52 = .ok (.aload_n 0, 1) := by decide +kernel
theorem dX2_count_53 : decode cX2_count 53 = .ok (.getfield 35, 3) := by decide +kernel
theorem dX2_count_56 : decode cX2_count 56 = .ok (.ireturn, 1) := by decide +kernel
theorem dX2_count_57 : decode cX2_count 57 = .ok (.aload_n 0, 1) := by decide +kernel
theorem dX2_count_58 : decode cX2_count 58 = .ok (.getfield 56, 3) := by decide +kernel
theorem dX2_count_61 : decode cX2_count 61 = .ok (.ifCond .eq 10, 3) := by decide +kernel
theorem dX2_count_64 : decode cX2_count 64 = .ok (.aload_n 0, 1) := by decide +kernel
theorem dX2_count_65 : decode cX2_count 65 = .ok (.invokevirtual 104, 3) := by decide +kernel
theorem dX2_count_68 : decode cX2_count 68 = .ok (.goto 4, 3) := by decide +kernel
theorem dX2_count_71 : decode cX2_count 71 = .ok (.iconst (-1), 1) := by decide +kernel
theorem dX2_count_72 : decode cX2_count 72 = .ok (.ireturn, 1) := by decide +kernel
theorem dX2_count_73 : decode cX2_count 73 = .ok (.aload_n 0, 1) := by decide +kernel
theorem dX2_count_74 : decode cX2_count 74 = .ok (.getfield 107, 3) := by decide +kernel
theorem dX2_count_77 : decode cX2_count 77 = .ok (.ireturn, 1) := by decide +kernel
theorem dX2_count_78 : decode cX2_count 78 = .ok (.aload_n 0, 1) := by decide +kernel
theorem dX2_count_79 : decode cX2_count 79 = .ok (.getfield 152, 3) := by decide +kernel
theorem dX2_count_82 : decode cX2_count 82 = .ok (.ireturn, 1) := by decide +kernel
theorem dX2_count_83 : decode cX2_count 83 = .ok (.aload_n 0, 1) := by decide +kernel
theorem dX2_count_84 : decode cX2_count 84 = .ok (.getfield 155, 3) := by decide +kernel
theorem dX2_count_87 : decode cX2_count 87 = .ok (.ireturn, 1) := by decide +kernel
theorem dX2_count_88 : decode cX2_count 88 = .ok (.aload_n 0, 1) := by decide +kernel
theorem dX2_count_89 : decode cX2_count 89 = .ok (.getfield 39, 3) := by decide +kernel
theorem dX2_count_92 : decode cX2_count 92 = .ok (.ireturn, 1) := by decide +kernel
theorem dX2_count_93 : decode cX2_count 93 = .ok (.aload_n 0, 1) := by decide +kernel
theorem dX2_count_94 : decode cX2_count 94 = .ok (.invokevirtual 112, 3) := by decide +kernel
theorem dX2_count_97 : decode cX2_count 97 = .ok (.ifCond .eq 7, 3) := by decide +kernel
theorem dX2_count_100 : decode cX2_count 100 = .ok (.iconst 1, 1) := by decide +kernel
theorem dX2_count_101 : decode cX2_count 101 = .ok (.goto 4, 3) := by decide +kernel
theorem dX2_count_104 : decode cX2_count 104 = .ok (.iconst 0, 1) := by decide +kernel
theorem dX2_count_105 : decode cX2_count 105 = .ok (.ireturn, 1) := by decide +kernel
theorem dX2_count_106 : decode cX2_count 106 = .ok (.aload_n 0, 1) := by decide +kernel
theorem dX2_count_107 : decode cX2_count 107 = .ok (.getfield 42, 3) := by decide +kernel
theorem dX2_count_110 : decode cX2_count 110 = .ok (.ireturn, 1) := by decide +kernel
theorem dX2_count_111 : decode cX2_count 111 = .ok (.aload_n 0, 1) := by decide +kernel
theorem dX2_count_112 : decode cX2_count 112 = .ok (.getfield 158, 3) := by decide +kernel
theorem dX2_count_115 : decode cX2_count 115 = .ok (.ireturn, 1) := by decide +kernel
theorem dX2_count_116 : decode cX2_count 116 = .ok (.new 123, 3) := by decide +kernel
theorem dX2_count_119 : decode cX2_count 119 = .ok (.dup, 1) := by decide +kernel
theorem dX2_count_120 : decode cX2_count 120 = .ok (.ldc 161, 2) := by decide +kernel
theorem dX2_count_122 : decode cX2_count 122 = .ok (.invokespecial 127, 3) := by decide +kernel
theorem dX2_count_125 : decode cX2_count 125 = .ok (.athrow, 1) := by decide +kernel
theorem dX2_flight_0 : decode cX2_flight 0 = .ok (.iload_n 1, 1) := by decide +kernel
theorem dX2_flight_1 : decode cX2_flight 1 = .ok (.invokestatic 163, 3) := by decide +kernel
theorem dX2_flight_4 : decode cX2_flight 4 = .ok (.ifCond .ne 13, 3) := by decide +kernel
theorem dX2_flight_7 : decode cX2_flight 7 = .ok (.new 49, 3) := by decide +kernel
theorem dX2_flight_10 : decode cX2_flight 10 = .ok (.dup, 1) := by decide +kernel
theorem dX2_flight_11 : decode cX2_flight 11 = .ok (.ldc 166, 2) := by decide +kernel
theorem dX2_flight_13 : decode cX2_flight 13 = .ok (.invokespecial 53, 3) := by decide +kernel
theorem dX2_flight_16 : decode cX2_flight 16 = .ok (.athrow, 1) := by decide +kernel
theorem dX2_flight_17 : decode cX2_flight 17 = .ok (.iload_n 2, 1) := by decide +kernel
theorem dX2_flight_18 : decode cX2_flight 18 = .ok (.ifCond .lt 9, 3) := by decide +kernel
theorem dX2_flight_21 : decode cX2_flight 21 = .ok (.iload_n 2, 1) := by decide +kernel
theorem dX2_flight_22 : decode cX2_flight 22 = .ok (.bipush 9, 2) := by decide +kernel
theorem dX2_flight_24 : decode cX2_flight 24 = .ok (.if_icmp .lt 13, 3) := by decide +kernel
theorem dX2_flight_27 : decode cX2_flight 27 = .ok (.new 123, 3) := by decide +kernel
theorem dX2_flight_30 : decode cX2_flight 30 = .ok (.dup, 1) := by decide +kernel
theorem dX2_flight_31 : decode cX2_flight 31 = .ok (.ldc 168, 2) := by decide +kernel
theorem dX2_flight_33 : decode cX2_flight 33 = .ok (.invokespecial 127, 3) := by decide +kernel
theorem dX2_flight_36 : decode cX2_flight 36 = .ok (.athrow, 1) := by decide +kernel
theorem dX2_flight_37 : decode cX2_flight 37 = .ok (.aload_n 0, 1) := by decide +kernel
theorem dX2_flight_38 : decode cX2_flight 38 = .ok (.getfield 56, 3) := by decide +kernel
theorem dX2_flight_41 : decode cX2_flight 41 = .ok (.ifCond .eq 11, 3) := by decide +kernel
theorem dX2_flight_44 : decode cX2_flight 44 = .ok (.aload_n 0, 1) := by decide +kernel
theorem dX2_flight_45 : decode cX2_flight 45 = .ok (.iload_n 1, 1) := by decide +kernel
theorem dX2_flight_46 : decode cX2_flight 46 = .ok (.invokevirtual 78, 3) := by decide +kernel
theorem dX2_flight_49 : decode cX2_flight 49 = .ok (.ifCond .eq 6, 3) := by decide +kernel
theorem dX2_flight_52 : decode cX2_flight 52 = .ok (.bipush (-99), 2) := by decide +kernel
theorem dX2_flight_54 : decode cX2_flight 54 = .ok (.ireturn, 1) := by decide +kernel
theorem dX2_flight_55 : decode cX2_flight 55 = .ok (.aload_n 0, 1) := by decide +kernel
theorem dX2_flight_56 : decode cX2_flight 56 = .ok (.iload_n 1, 1) := by decide +kernel
theorem dX2_flight_57 : decode cX2_flight 57 = .ok (.invokevirtual 90, 3) := by decide +kernel
theorem dX2_flight_60 : decode cX2_flight 60 = .ok (.aload_n 0, 1) := by decide +kernel
theorem dX2_flight_61 : decode cX2_flight 61 = .ok (.getfield 29, 3) := by decide +kernel
theorem dX2_flight_64 : decode cX2_flight 64 = .ok (.iload_n 2, 1) := by decide +kernel
theorem dX2_flight_65 : decode cX2_flight 65 = .ok (.invokevirtual 142, 3) := by decide +kernel
theorem dX2_flight_68 : decode cX2_flight 68 = .ok (.ireturn, 1) := by decide +kernel
theorem dX2_end_0 : decode cX2_end 0 = .ok (.iload_n 1, 1) := by decide +kernel
theorem dX2_end_1 : decode cX2_end 1 = .ok (.ifCond .lt 8, 3) := by decide +kernel
theorem dX2_end_4 : decode cX2_end 4 = .ok (.iload_n 1, 1) := by decide +kernel
theorem dX2_end_5 : decode cX2_end 5 = .ok (.iconst 5, 1) := by decide +kernel
theorem dX2_end_6 : decode cX2_end 6 = .ok (.if_icmp .lt 13, 3) := by decide +kernel
theorem dX2_end_9 : decode cX2_end 9 = .ok (.new 123, 3) := by decide +kernel
theorem dX2_end_12 : decode cX2_end 12 = .ok (.dup, 1) := by decide +kernel
theorem dX2_end_13 : decode cX2_end 13 = .ok (.ldc 170, 2) := by decide +kernel
theorem dX2_end_15 : decode cX2_end 15 = .ok (.invokespecial 127, 3) := by decide +kernel
theorem dX2_end_18 : decode cX2_end 18 = .ok (.athrow, 1) := by decide +kernel
theorem dX2_end_19 : decode cX2_end 19 = .ok (.aload_n 0, 1) := by decide +kernel
theorem dX2_end_20 : decode cX2_end 20 = .ok (.getfield 56, 3) := by decide +kernel
theorem dX2_end_23 : decode cX2_end 23 = .ok (.ifCond .eq 14, 3) := by decide +kernel
theorem dX2_end_26 : decode cX2_end 26 = .ok (.aload_n 0, 1) := by decide +kernel
theorem dX2_end_27 : decode cX2_end 27 = .ok (.getfield 26, 3) := by decide +kernel
theorem dX2_end_30 : decode cX2_end 30 = .ok (.iload_n 1, 1) := by decide +kernel
theorem dX2_end_31 : decode cX2_end 31 = .ok (.invokevirtual 172, 3) := by decide +kernel
theorem dX2_end_34 : decode cX2_end 34 = .ok (.goto 4, 3) := by decide +kernel
theorem dX2_end_37 : decode cX2_end 37 = .ok (.iconst 0, 1) := by decide +kernel
theorem dX2_end_38 : decode cX2_end 38 = .ok (.ireturn, 1) := by decide +kernel
theorem dX2_would_0 : decode cX2_would 0 = .ok (.iload_n 1, 1) := by decide +kernel
theorem dX2_would_1 : decode cX2_would 1 = .ok (.invokestatic 163, 3) := by decide +kernel
theorem dX2_would_4 : decode cX2_would 4 = .ok (.ifCond .eq 13, 3) := by decide +kernel
theorem dX2_would_7 : decode cX2_would 7 = .ok (.iload_n 2, 1) := by decide +kernel
theorem dX2_would_8 : decode cX2_would 8 = .ok (.iload_n 3, 1) := by decide +kernel
theorem dX2_would_9 : decode cX2_would 9 = .ok (.iload 4, 2) := by decide +kernel
theorem dX2_would_11 : decode cX2_would 11 = .ok (.invokestatic 45, 3) := by decide +kernel
theorem dX2_would_14 : decode cX2_would 14 = .ok (.ifCond .ne 13, 3) := by decide +kernel
theorem dX2_would_17 : decode cX2_would 17 = .ok (.new 49, 3) := by decide +kernel
theorem dX2_would_20 : decode cX2_would 20 = .ok (.dup, 1) := by decide +kernel
theorem dX2_would_21 : decode cX2_would 21 = .ok (.ldc 51, 2) := by decide +kernel
theorem dX2_would_23 : decode cX2_would 23 = .ok (.invokespecial 53, 3) := by decide +kernel
theorem dX2_would_26 : decode cX2_would 26 = .ok (.athrow, 1) := by decide +kernel
theorem dX2_would_27 : decode cX2_would 27 = .ok (.aload_n 0, 1) := by decide +kernel
theorem dX2_would_28 : decode cX2_would 28 = .ok (.iload_n 1, 1) := by decide +kernel
theorem dX2_would_29 : decode cX2_would 29 = .ok (.invokevirtual 175, 3) := by decide +kernel
theorem dX2_would_32 : decode cX2_would 32 = .ok (.ifCond .ne 5, 3) := by decide +kernel
theorem dX2_would_35 : decode cX2_would 35 = .ok (.iconst (-1), 1) := by decide +kernel
theorem dX2_would_36 : decode cX2_would 36 = .ok (.ireturn, 1) := by decide +kernel
theorem dX2_would_37 : decode cX2_would 37 = .ok (.aload_n 0, 1) := by decide +kernel
theorem dX2_would_38 : decode cX2_would 38 = .ok (.iload_n 2, 1) := by decide +kernel
theorem dX2_would_39 : decode cX2_would 39 = .ok (.iload_n 3, 1) := by decide +kernel
theorem dX2_would_40 : decode cX2_would 40 = .ok (.iload 4, 2) := by decide +kernel
theorem dX2_would_42 : decode cX2_would 42 = .ok (.ldc 178, 2) := by decide +kernel
theorem dX2_would_44 : decode cX2_would 44 = .ok (.invokevirtual 179, 3) := by decide +kernel
theorem dX2_would_47 : decode cX2_would 47 = .ok (.aload_n 0, 1) := by decide +kernel
theorem dX2_would_48 : decode cX2_would 48 = .ok (.getfield 32, 3) := by decide +kernel
theorem dX2_would_51 : decode cX2_would 51 = .ok (.getfield 182, 3) := by decide +kernel
theorem dX2_would_54 : decode cX2_would 54 = .ok (.ireturn, 1) := by decide +kernel
theorem dX2_advise_0 : decode cX2_advise 0 = .ok (.iload_n 1, 1) := by decide +kernel
theorem dX2_advise_1 : decode cX2_advise 1 = .ok (.invokestatic 163, 3) := by decide +kernel
theorem dX2_advise_4 : decode cX2_advise 4 = .ok (.ifCond .ne 13, 3) := by decide +kernel
theorem dX2_advise_7 : decode cX2_advise 7 = .ok (.new 49, 3) := by decide +kernel
theorem dX2_advise_10 : decode cX2_advise 10 = .ok (.dup, 1) := by decide +kernel
theorem dX2_advise_11 : decode cX2_advise 11 = .ok (.ldc 166, 2) := by decide +kernel
theorem dX2_advise_13 : decode cX2_advise 13 = .ok (.invokespecial 53, 3) := by decide +kernel
theorem dX2_advise_16 : decode cX2_advise 16 = .ok (.athrow, 1) := by decide +kernel
theorem dX2_advise_17 : decode cX2_advise 17 = .ok (.aload_n 0, 1) := by decide +kernel
theorem dX2_advise_18 : decode cX2_advise 18 = .ok (.iload_n 1, 1) := by decide +kernel
theorem dX2_advise_19 : decode cX2_advise 19 = .ok (.invokevirtual 175, 3) := by decide +kernel
theorem dX2_advise_22 : decode cX2_advise 22 = .ok (.ifCond .ne 5, 3) := by decide +kernel
theorem dX2_advise_25 : decode cX2_advise 25 = .ok (.iconst (-1), 1) := by decide +kernel
theorem dX2_advise_26 : decode cX2_advise 26 = .ok (.ireturn, 1) := by decide +kernel
theorem dX2_advise_27 : decode cX2_advise 27 = .ok (.aload_n 0, 1) := by decide +kernel
theorem dX2_advise_28 : decode cX2_advise 28 = .ok (.invokevirtual 185, 3) := by decide +kernel
theorem dX2_advise_31 : decode cX2_advise 31 = .ok (.ireturn, 1) := by decide +kernel
theorem dX2_mean_0 : decode cX2_mean 0 = .ok (.aload_n 0, 1) := by decide +kernel
theorem dX2_mean_1 : decode cX2_mean 1 = .ok (.getfield 152, 3) := by decide +kernel
theorem dX2_mean_4 : decode cX2_mean 4 = .ok (.ifCond .ne 5, 3) := by decide +kernel
theorem dX2_mean_7 : decode cX2_mean 7 = .ok (.dconst 0, 1) := by decide +kernel
theorem dX2_mean_8 : decode cX2_mean 8 = .ok (.dreturn, 1) := by decide +kernel
theorem dX2_mean_9 : decode cX2_mean 9 = .ok (.aload_n 0, 1) := by decide +kernel
theorem dX2_mean_10 : decode cX2_mean 10 = .ok (.getfield 188, 3) := by decide +kernel
theorem dX2_mean_13 : decode cX2_mean 13 = .ok (.i2d, 1) := by decide +kernel
theorem dX2_mean_14 : decode cX2_mean 14 = .ok (.aload_n 0, 1) := by decide +kernel
theorem dX2_mean_15 : decode cX2_mean 15 = .ok (.getfield 152, 3) := by decide +kernel
theorem dX2_mean_18 : decode cX2_mean 18 = .ok (.i2d, 1) := by decide +kernel
theorem dX2_mean_19 : decode cX2_mean 19 = .ok (.ddiv, 1) := by decide +kernel
theorem dX2_mean_20 : decode cX2_mean 20 = .ok (.dreturn, 1) := by decide +kernel
theorem dX2_digest_0 : decode cX2_digest 0 = .ok (.ldc2_w 191, 3) := by decide +kernel
theorem dX2_digest_3 : decode cX2_digest 3 = .ok (.lstore_n 1, 1) := by decide +kernel
theorem dX2_digest_4 : decode cX2_digest 4 = .ok (.iconst 0, 1) := by decide +kernel
theorem dX2_digest_5 : decode cX2_digest 5 = .ok (.istore_n 3, 1) := by decide +kernel
theorem dX2_digest_6 : decode cX2_digest 6 = .ok (.iload_n 3, 1) := by decide +kernel
theorem dX2_digest_7 : decode cX2_digest 7 = .ok (.bipush 9, 2) := by decide +kernel
theorem dX2_digest_9 : decode cX2_digest 9 = .ok (.if_icmp .ge 22, 3) := by decide +kernel
theorem dX2_digest_12 : decode cX2_digest 12 = .ok (.lload_n 1, 1) := by decide +kernel
theorem dX2_digest_13 : decode cX2_digest 13 = .ok (.ldc2_w 193, 3) := by decide +kernel
theorem dX2_digest_16 : decode cX2_digest 16 = .ok (.lmul, 1) := by decide +kernel
theorem dX2_digest_17 : decode cX2_digest 17 = .ok (.aload_n 0, 1) := by decide +kernel
theorem dX2_digest_18 : decode cX2_digest 18 = .ok (.iload_n 3, 1) := by decide +kernel
theorem dX2_digest_19 : decode cX2_digest 19 = .ok (.invokevirtual 195, 3) := by decide +kernel
theorem dX2_digest_22 : decode cX2_digest 22 = .ok (.i2l, 1) := by decide +kernel
theorem dX2_digest_23 : decode cX2_digest 23 = .ok (.ladd, 1) := by decide +kernel
theorem dX2_digest_24 : decode cX2_digest 24 = .ok (.lstore_n 1, 1) := by decide +kernel
theorem dX2_digest_25 : decode cX2_digest 25 = .ok (.iinc 3 1, 3) := by decide +kernel
theorem dX2_digest_28 : decode cX2_digest 28 = .ok (.goto (-22), 3) := by decide +kernel
theorem dX2_digest_31 : decode cX2_digest 31 = .ok (.iconst 0, 1) := by decide +kernel
theorem dX2_digest_32 : decode cX2_digest 32 = .ok (.istore_n 3, 1) := by decide +kernel
theorem dX2_digest_33 : decode cX2_digest 33 = .ok (.iload_n 3, 1) := by decide +kernel
theorem dX2_digest_34 : decode cX2_digest 34 = .ok (.iconst 2, 1) := by decide +kernel
theorem dX2_digest_35 : decode cX2_digest 35 = .ok (.if_icmp .ge 39, 3) := by decide +kernel
theorem dX2_digest_38 : decode cX2_digest 38 = .ok (.iconst 0, 1) := by decide +kernel
theorem dX2_digest_39 : decode cX2_digest 39 = .ok (.istore 4, 2) := by decide +kernel
theorem dX2_digest_41 : decode cX2_digest 41 = .ok (.iload 4, 2) := by decide +kernel
theorem dX2_digest_43 : decode cX2_digest 43 = .ok (.iconst 4, 1) := by decide +kernel
theorem dX2_digest_44 : decode cX2_digest 44 = .ok (.if_icmp .ge 24, 3) := by decide +kernel
theorem dX2_digest_47 : decode cX2_digest 47 = .ok (.lload_n 1, 1) := by decide +kernel
theorem dX2_digest_48 : decode cX2_digest 48 = .ok (.ldc2_w 193, 3) := by decide +kernel
theorem dX2_digest_51 : decode cX2_digest 51 = .ok (.lmul, 1) := by decide +kernel
theorem dX2_digest_52 : decode cX2_digest 52 = .ok (.aload_n 0, 1) := by decide +kernel
theorem dX2_digest_53 : decode cX2_digest 53 = .ok (.iload_n 3, 1) := by decide +kernel
theorem dX2_digest_54 : decode cX2_digest 54 = .ok (.iload 4, 2) := by decide +kernel
theorem dX2_digest_56 : decode cX2_digest 56 = .ok (.invokevirtual 198, 3) := by decide +kernel
theorem dX2_digest_59 : decode cX2_digest 59 = .ok (.i2l, 1) := by decide +kernel
theorem dX2_digest_60 : decode cX2_digest 60 = .ok (.ladd, 1) := by decide +kernel
theorem dX2_digest_61 : decode cX2_digest 61 = .ok (.lstore_n 1, 1) := by decide +kernel
theorem dX2_digest_62 : decode cX2_digest 62 = .ok (.iinc 4 1, 3) := by decide +kernel
theorem dX2_digest_65 : decode cX2_digest 65 = .ok (.goto (-24), 3) := by decide +kernel
theorem dX2_digest_68 : decode cX2_digest 68 = .ok (.iinc 3 1, 3) := by decide +kernel
theorem dX2_digest_71 : decode cX2_digest 71 = .ok (.goto (-38), 3) := by decide +kernel
theorem dX2_digest_74 : decode cX2_digest 74 = .ok (.iconst 0, 1) := by decide +kernel
theorem dX2_digest_75 : decode cX2_digest 75 = .ok (.istore_n 3, 1) := by decide +kernel
theorem dX2_digest_76 : decode cX2_digest 76 = .ok (.iload_n 3, 1) := by decide +kernel
theorem dX2_digest_77 : decode cX2_digest 77 = .ok (.bipush 6, 2) := by decide +kernel
theorem dX2_digest_79 : decode cX2_digest 79 = .ok (.if_icmp .ge 22, 3) := by decide +kernel
theorem dX2_digest_82 : decode cX2_digest 82 = .ok (.lload_n 1, 1) := by decide +kernel
theorem dX2_digest_83 : decode cX2_digest 83 = .ok (.ldc2_w 193, 3) := by decide +kernel
theorem dX2_digest_86 : decode cX2_digest 86 = .ok (.lmul, 1) := by decide +kernel
theorem dX2_digest_87 : decode cX2_digest 87 = .ok (.aload_n 0, 1) := by decide +kernel
theorem dX2_digest_88 : decode cX2_digest 88 = .ok (.iload_n 3, 1) := by decide +kernel
theorem dX2_digest_89 : decode cX2_digest 89 = .ok (.invokevirtual 202, 3) := by decide +kernel
theorem dX2_digest_92 : decode cX2_digest 92 = .ok (.i2l, 1) := by decide +kernel
theorem dX2_digest_93 : decode cX2_digest 93 = .ok (.ladd, 1) := by decide +kernel
theorem dX2_digest_94 : decode cX2_digest 94 = .ok (.lstore_n 1, 1) := by decide +kernel
theorem dX2_digest_95 : decode cX2_digest 95 = .ok (.iinc 3 1, 3) := by decide +kernel
theorem dX2_digest_98 : decode cX2_digest 98 = .ok (.goto (-22), 3) := by decide +kernel
theorem dX2_digest_101 : decode cX2_digest 101 = .ok (.iconst 0, 1) := by decide +kernel
theorem dX2_digest_102 : decode cX2_digest 102 = .ok (.istore_n 3, 1) := by decide +kernel
theorem dX2_digest_103 : decode cX2_digest 103 = .ok (.iload_n 3, 1) := by decide +kernel
theorem dX2_digest_104 : decode cX2_digest 104 = .ok (.iconst 5, 1) := by decide +kernel
theorem dX2_digest_105 : decode cX2_digest 105 = .ok (.if_icmp .ge 22, 3) := by decide +kernel
theorem dX2_digest_108 : decode cX2_digest 108 = .ok (.lload_n 1, 1) := by decide +kernel
theorem dX2_digest_109 : decode cX2_digest 109 = .ok (.ldc2_w 193, 3) := by decide +kernel
theorem dX2_digest_112 : decode cX2_digest 112 = .ok (.lmul, 1) := by decide +kernel
theorem dX2_digest_113 : decode cX2_digest 113 = .ok (.aload_n 0, 1) := by decide +kernel
theorem dX2_digest_114 : decode cX2_digest 114 = .ok (.iload_n 3, 1) := by decide +kernel
theorem dX2_digest_115 : decode cX2_digest 115 = .ok (.invokevirtual 205, 3) := by decide +kernel
theorem dX2_digest_118 : decode cX2_digest 118 = .ok (.i2l, 1) := by decide +kernel
theorem dX2_digest_119 : decode cX2_digest 119 = .ok (.ladd, 1) := by decide +kernel
theorem dX2_digest_120 : decode cX2_digest 120 = .ok (.lstore_n 1, 1) := by decide +kernel
theorem dX2_digest_121 : decode cX2_digest 121 = .ok (.iinc 3 1, 3) := by decide +kernel
theorem dX2_digest_124 : decode cX2_digest 124 = .ok (.goto (-21), 3) := by decide +kernel
theorem dX2_digest_127 : decode cX2_digest 127 = .ok (.lload_n 1, 1) := by decide +kernel
theorem dX2_digest_128 : decode cX2_digest 128 = .ok (.lreturn, 1) := by decide +kernel
theorem dX2_isStroke_0 : decode cX2_isStroke 0 = .ok (.iload_n 0, 1) := by decide +kernel
theorem dX2_isStroke_1 : decode cX2_isStroke 1 = .ok (.invokestatic 208, 3) := by decide +kernel
theorem dX2_isStroke_4 : decode cX2_isStroke 4 = .ok (.ifCond .eq 24, 3) := by decide +kernel
theorem dX2_isStroke_7 : decode cX2_isStroke 7 = .ok (.iload_n 1, 1) := by decide +kernel
theorem dX2_isStroke_8 : decode cX2_isStroke 8 = .ok (.invokestatic 208, 3) := by decide +kernel
theorem dX2_isStroke_11 : decode cX2_isStroke 11 = .ok (.ifCond .eq 17, 3) := by decide +kernel
theorem dX2_isStroke_14 : decode cX2_isStroke 14 = .ok (.iload_n 2, 1) := by decide +kernel
theorem dX2_isStroke_15 : decode cX2_isStroke 15 = .ok (.ifCond .lt 13, 3) := by decide +kernel
theorem dX2_isStroke_18 : decode cX2_isStroke 18 = .ok (.iload_n 2, 1) := by decide +kernel
theorem dX2_isStroke_19 : decode cX2_isStroke 19 = .ok (.bipush 9, 2) := by decide +kernel
theorem dX2_isStroke_21 : decode cX2_isStroke 21 = .ok (.if_icmp .gt 7, 3) := by decide +kernel
theorem dX2_isStroke_24 : decode cX2_isStroke 24 = .ok (.iconst 1, 1) := by decide +kernel
theorem dX2_isStroke_25 : decode cX2_isStroke 25 = .ok (.goto 4, 3) := by decide +kernel
theorem dX2_isStroke_28 : decode cX2_isStroke 28 = .ok (.iconst 0, 1) := by decide +kernel
theorem dX2_isStroke_29 : decode cX2_isStroke 29 = .ok (.ireturn, 1) := by decide +kernel
theorem dX2_isWay_0 : decode cX2_isWay 0 = .ok (.iload_n 0, 1) := by decide +kernel
theorem dX2_isWay_1 : decode cX2_isWay 1 = .ok (.bipush (-2), 2) := by decide +kernel
theorem dX2_isWay_3 : decode cX2_isWay 3 = .ok (.if_icmp .lt 12, 3) := by decide +kernel
theorem dX2_isWay_6 : decode cX2_isWay 6 = .ok (.iload_n 0, 1) := by decide +kernel
theorem dX2_isWay_7 : decode cX2_isWay 7 = .ok (.iconst 2, 1) := by decide +kernel
theorem dX2_isWay_8 : decode cX2_isWay 8 = .ok (.if_icmp .gt 7, 3) := by decide +kernel
theorem dX2_isWay_11 : decode cX2_isWay 11 = .ok (.iconst 1, 1) := by decide +kernel
theorem dX2_isWay_12 : decode cX2_isWay 12 = .ok (.goto 4, 3) := by decide +kernel
theorem dX2_isWay_15 : decode cX2_isWay 15 = .ok (.iconst 0, 1) := by decide +kernel
theorem dX2_isWay_16 : decode cX2_isWay 16 = .ok (.ireturn, 1) := by decide +kernel
theorem dX2_isSide_0 : decode cX2_isSide 0 = .ok (.iload_n 0, 1) := by decide +kernel
theorem dX2_isSide_1 : decode cX2_isSide 1 = .ok (.ifCond .eq 8, 3) := by decide +kernel
theorem dX2_isSide_4 : decode cX2_isSide 4 = .ok (.iload_n 0, 1) := by decide +kernel
theorem dX2_isSide_5 : decode cX2_isSide 5 = .ok (.iconst 1, 1) := by decide +kernel
theorem dX2_isSide_6 : decode cX2_isSide 6 = .ok (.if_icmp .ne 7, 3) := by decide +kernel
theorem dX2_isSide_9 : decode cX2_isSide 9 = .ok (.iconst 1, 1) := by decide +kernel
theorem dX2_isSide_10 : decode cX2_isSide 10 = .ok (.goto 4, 3) := by decide +kernel
theorem dX2_isSide_13 : decode cX2_isSide 13 = .ok (.iconst 0, 1) := by decide +kernel
theorem dX2_isSide_14 : decode cX2_isSide 14 = .ok (.ireturn, 1) := by decide +kernel
theorem dX2_isLookAhead_0 : decode cX2_isLookAhead 0 = .ok (.iload_n 0, 1) := by decide +kernel
theorem dX2_isLookAhead_1 : decode cX2_isLookAhead 1 = .ok (.ifCond .lt 13, 3) := by decide +kernel
theorem dX2_isLookAhead_4 : decode cX2_isLookAhead 4 = .ok (.iload_n 0, 1) := by decide +kernel
theorem dX2_isLookAhead_5 : decode cX2_isLookAhead 5 = .ok (.bipush 60, 2) := by decide +kernel
theorem dX2_isLookAhead_7 : decode cX2_isLookAhead 7 = .ok (.if_icmp .gt 7, 3) := by decide +kernel
theorem dX2_isLookAhead_10 : decode cX2_isLookAhead 10 = .ok (.iconst 1, 1) := by decide +kernel
theorem dX2_isLookAhead_11 : decode cX2_isLookAhead 11 = .ok (.goto 4, 3) := by decide +kernel
theorem dX2_isLookAhead_14 : decode cX2_isLookAhead 14 = .ok (.iconst 0, 1) := by decide +kernel
theorem dX2_isLookAhead_15 : decode cX2_isLookAhead 15 = .ok (.ireturn, 1) := by decide +kernel
theorem dX2_sideOf_0 : decode cX2_sideOf 0 = .ok (.iload_n 1, 1) := by decide +kernel
theorem dX2_sideOf_1 : decode cX2_sideOf 1 = .ok (.ifCond .ne 10, 3) := by decide +kernel
theorem dX2_sideOf_4 : decode cX2_sideOf 4 = .ok (.aload_n 0, 1) := by decide +kernel
theorem dX2_sideOf_5 : decode cX2_sideOf 5 = .ok (.getfield 10, 3) := by decide +kernel
theorem dX2_sideOf_8 : decode cX2_sideOf 8 = .ok (.goto 7, 3) := by decide +kernel
theorem dX2_sideOf_11 : decode cX2_sideOf 11 = .ok (.aload_n 0, 1) := by decide +kernel
theorem dX2_sideOf_12 : decode cX2_sideOf 12 = .ok (.getfield 16, 3) := by decide +kernel
theorem dX2_sideOf_15 : decode cX2_sideOf 15 = .ok (.areturn, 1) := by decide +kernel
theorem dX2_otherSide_0 : decode cX2_otherSide 0 = .ok (.iconst 1, 1) := by decide +kernel
theorem dX2_otherSide_1 : decode cX2_otherSide 1 = .ok (.iload_n 0, 1) := by decide +kernel
theorem dX2_otherSide_2 : decode cX2_otherSide 2 = .ok (.isub, 1) := by decide +kernel
theorem dX2_otherSide_3 : decode cX2_otherSide 3 = .ok (.ireturn, 1) := by decide +kernel
theorem dX2_sideToStrike_0 : decode cX2_sideToStrike 0 = .ok (.aload_n 0, 1) := by decide +kernel
theorem dX2_sideToStrike_1 : decode cX2_sideToStrike 1 = .ok (.getfield 107, 3) := by decide +kernel
theorem dX2_sideToStrike_4 : decode cX2_sideToStrike 4 = .ok (.iconst 2, 1) := by decide +kernel
theorem dX2_sideToStrike_5 : decode cX2_sideToStrike 5 = .ok (.irem, 1) := by decide +kernel
theorem dX2_sideToStrike_6 : decode cX2_sideToStrike 6 = .ok (.ifCond .ne 10, 3) := by decide +kernel
theorem dX2_sideToStrike_9 : decode cX2_sideToStrike 9 = .ok (.aload_n 0, 1) := by decide +kernel
theorem dX2_sideToStrike_10 : decode cX2_sideToStrike 10 = .ok (.getfield 35, 3) := by decide +kernel
theorem dX2_sideToStrike_13 : decode cX2_sideToStrike 13 = .ok (.goto 10, 3) := by decide +kernel
theorem dX2_sideToStrike_16 : decode cX2_sideToStrike 16 = .ok (.aload_n 0, 1) := by decide +kernel
theorem dX2_sideToStrike_17 : decode cX2_sideToStrike 17 = .ok (.getfield 35, 3) := by decide +kernel
theorem dX2_sideToStrike_20 : decode cX2_sideToStrike 20 = .ok (.invokestatic 211, 3) := by decide +kernel
theorem dX2_sideToStrike_23 : decode cX2_sideToStrike 23 = .ok (.ireturn, 1) := by decide +kernel
theorem dX2_winnerByFlight_0 : decode cX2_winnerByFlight 0 = .ok (.aload_n 0, 1) := by decide +kernel
theorem dX2_winnerByFlight_1 : decode cX2_winnerByFlight 1 = .ok (.invokevirtual 104, 3) := by decide +kernel
theorem dX2_winnerByFlight_4 : decode cX2_winnerByFlight 4 = .ok (.istore_n 1, 1) := by decide +kernel
theorem dX2_winnerByFlight_5 : decode cX2_winnerByFlight 5 = .ok (.aload_n 0, 1) := by decide +kernel
theorem dX2_winnerByFlight_6 : decode cX2_winnerByFlight 6 = .ok (.getfield 26, 3) := by decide +kernel
theorem dX2_winnerByFlight_9 : decode cX2_winnerByFlight 9 = .ok (.getfield 182, 3) := by decide +kernel
theorem dX2_winnerByFlight_12 : decode cX2_winnerByFlight 12 = .ok (.iconst 3, 1) := by decide +kernel
theorem dX2_winnerByFlight_13 : decode cX2_winnerByFlight 13 = .ok (.if_icmp .ne 10, 3) := by decide +kernel
theorem dX2_winnerByFlight_16 : decode cX2_winnerByFlight 16 = .ok (.iload_n 1, 1) := by decide +kernel
theorem dX2_winnerByFlight_17 : decode cX2_winnerByFlight 17 = .ok (.invokestatic 211, 3) := by decide +kernel
theorem dX2_winnerByFlight_20 : decode cX2_winnerByFlight 20 = .ok (.goto 4, 3) := by decide +kernel
theorem dX2_winnerByFlight_23 : decode cX2_winnerByFlight 23 = .ok (.iload_n 1, 1) := by decide +kernel
theorem dX2_winnerByFlight_24 : decode cX2_winnerByFlight 24 = .ok (.ireturn, 1) := by decide +kernel
theorem dX2_winRally_0 : decode cX2_winRally 0 = .ok (.aload_n 0, 1) := by decide +kernel
theorem dX2_winRally_1 : decode cX2_winRally 1 = .ok (.dup, 1) := by decide +kernel
theorem dX2_winRally_2 : decode cX2_winRally 2 = .ok (.getfield 152, 3) := by decide +kernel
theorem dX2_winRally_5 : decode cX2_winRally 5 = .ok (.iconst 1, 1) := by decide +kernel
theorem dX2_winRally_6 : decode cX2_winRally 6 = .ok (.iadd, 1) := by decide +kernel
theorem dX2_winRally_7 : decode cX2_winRally 7 = .ok (.putfield 152, 3) := by decide +kernel
theorem dX2_winRally_10 : decode cX2_winRally 10 = .ok (.aload_n 0, 1) := by decide +kernel
theorem dX2_winRally_11 : decode cX2_winRally 11 = .ok (.dup, 1) := by decide +kernel
theorem dX2_winRally_12 : decode cX2_winRally 12 = .ok (.getfield 188, 3) := by decide +kernel
theorem dX2_winRally_15 : decode cX2_winRally 15 = .ok (.aload_n 0, 1) := by decide +kernel
theorem dX2_winRally_16 : decode cX2_winRally 16 = .ok (.getfield 107, 3) := by decide +kernel
theorem dX2_winRally_19 : decode cX2_winRally 19 = .ok (.iadd, 1) := by decide +kernel
theorem dX2_winRally_20 : decode cX2_winRally 20 = .ok (.putfield 188, 3) := by decide +kernel
theorem dX2_winRally_23 : decode cX2_winRally 23 = .ok (.aload_n 0, 1) := by decide +kernel
theorem dX2_winRally_24 : decode cX2_winRally 24 = .ok (.iload_n 1, 1) := by decide +kernel
theorem dX2_winRally_25 : decode cX2_winRally 25 = .ok (.invokevirtual 147, 3) := by decide +kernel
theorem dX2_winRally_28 : decode cX2_winRally 28 = .ok (.dup, 1) := by decide +kernel
theorem dX2_winRally_29 : decode cX2_winRally 29 = .ok (.getfield 214, 3) := by decide +kernel
theorem dX2_winRally_32 : decode cX2_winRally 32 = .ok (.iconst 1, 1) := by decide +kernel
theorem dX2_winRally_33 : decode cX2_winRally 33 = .ok (.iadd, 1) := by decide +kernel
theorem dX2_winRally_34 : decode cX2_winRally 34 = .ok (.putfield 214, 3) := by decide +kernel
theorem dX2_winRally_37 : decode cX2_winRally 37 = .ok (.aload_n 0, 1) := by decide +kernel
theorem dX2_winRally_38 : decode cX2_winRally 38 = .ok (.invokevirtual 131, 3) := by decide +kernel
theorem dX2_winRally_41 : decode cX2_winRally 41 = .ok (.iload_n 1, 1) := by decide +kernel
theorem dX2_winRally_42 : decode cX2_winRally 42 = .ok (.aload_n 0, 1) := by decide +kernel
theorem dX2_winRally_43 : decode cX2_winRally 43 = .ok (.getfield 35, 3) := by decide +kernel
theorem dX2_winRally_46 : decode cX2_winRally 46 = .ok (.if_icmp .ne 10, 3) := by decide +kernel
theorem dX2_winRally_49 : decode cX2_winRally 49 = .ok (.aload_n 0, 1) := by decide +kernel
theorem dX2_winRally_50 : decode cX2_winRally 50 = .ok (.invokevirtual 217, 3) := by decide +kernel
theorem dX2_winRally_53 : decode cX2_winRally 53 = .ok (.goto 8, 3) := by decide +kernel
theorem dX2_winRally_56 : decode cX2_winRally 56 = .ok (.aload_n 0, 1) := by decide +kernel
theorem dX2_winRally_57 : decode cX2_winRally 57 = .ok (.iload_n 1, 1) := by decide +kernel
theorem dX2_winRally_58 : decode cX2_winRally 58 = .ok (.putfield 35, 3) := by decide +kernel
theorem dX2_winRally_61 : decode cX2_winRally 61 = .ok (.iconst 2, 1) := by decide +kernel
theorem dX2_winRally_62 : decode cX2_winRally 62 = .ok (.iload_n 1, 1) := by decide +kernel
theorem dX2_winRally_63 : decode cX2_winRally 63 = .ok (.iadd, 1) := by decide +kernel
theorem dX2_winRally_64 : decode cX2_winRally 64 = .ok (.ireturn, 1) := by decide +kernel
theorem dX2_winPoint_0 : decode cX2_winPoint 0 = .ok (.aload_n 0, 1) := by decide +kernel
theorem dX2_winPoint_1 : decode cX2_winPoint 1 = .ok (.aload_n 0, 1) := by decide +kernel
theorem dX2_winPoint_2 : decode cX2_winPoint 2 = .ok (.getfield 35, 3) := by decide +kernel
theorem dX2_winPoint_5 : decode cX2_winPoint 5 = .ok (.invokevirtual 147, 3) := by decide +kernel
theorem dX2_winPoint_8 : decode cX2_winPoint 8 = .ok (.astore_n 1, 1) := by decide +kernel
theorem dX2_winPoint_9 : decode cX2_winPoint 9 = .ok (.aload_n 1, 1) := by decide +kernel
theorem dX2_winPoint_10 : decode cX2_winPoint 10 = .ok (.dup, 1) := by decide +kernel
theorem dX2_winPoint_11 : decode cX2_winPoint 11 = .ok (.getfield 117, 3) := by decide +kernel
theorem dX2_winPoint_14 : decode cX2_winPoint 14 = .ok (.iconst 1, 1) := by decide +kernel
theorem dX2_winPoint_15 : decode cX2_winPoint 15 = .ok (.iadd, 1) := by decide +kernel
theorem dX2_winPoint_16 : decode cX2_winPoint 16 = .ok (.putfield 117, 3) := by decide +kernel
theorem dX2_winPoint_19 : decode cX2_winPoint 19 = .ok (.aload_n 1, 1) := by decide +kernel
theorem dX2_winPoint_20 : decode cX2_winPoint 20 = .ok (.getfield 117, 3) := by decide +kernel
theorem dX2_winPoint_23 : decode cX2_winPoint 23 = .ok (.aload_n 0, 1) := by decide +kernel
theorem dX2_winPoint_24 : decode cX2_winPoint 24 = .ok (.getfield 39, 3) := by decide +kernel
theorem dX2_winPoint_27 : decode cX2_winPoint 27 = .ok (.if_icmp .lt 8, 3) := by decide +kernel
theorem dX2_winPoint_30 : decode cX2_winPoint 30 = .ok (.aload_n 0, 1) := by decide +kernel
theorem dX2_winPoint_31 : decode cX2_winPoint 31 = .ok (.aload_n 1, 1) := by decide +kernel
theorem dX2_winPoint_32 : decode cX2_winPoint 32 = .ok (.invokevirtual 220, 3) := by decide +kernel
theorem dX2_winPoint_35 : decode cX2_winPoint 35 = .ok (.return_, 1) := by decide +kernel
theorem dX2_winGame_0 : decode cX2_winGame 0 = .ok (.aload_n 1, 1) := by decide +kernel
theorem dX2_winGame_1 : decode cX2_winGame 1 = .ok (.dup, 1) := by decide +kernel
theorem dX2_winGame_2 : decode cX2_winGame 2 = .ok (.getfield 128, 3) := by decide +kernel
theorem dX2_winGame_5 : decode cX2_winGame 5 = .ok (.iconst 1, 1) := by decide +kernel
theorem dX2_winGame_6 : decode cX2_winGame 6 = .ok (.iadd, 1) := by decide +kernel
theorem dX2_winGame_7 : decode cX2_winGame 7 = .ok (.putfield 128, 3) := by decide +kernel
theorem dX2_winGame_10 : decode cX2_winGame 10 = .ok (.aload_n 0, 1) := by decide +kernel
theorem dX2_winGame_11 : decode cX2_winGame 11 = .ok (.dup, 1) := by decide +kernel
theorem dX2_winGame_12 : decode cX2_winGame 12 = .ok (.getfield 158, 3) := by decide +kernel
theorem dX2_winGame_15 : decode cX2_winGame 15 = .ok (.iconst 1, 1) := by decide +kernel
theorem dX2_winGame_16 : decode cX2_winGame 16 = .ok (.iadd, 1) := by decide +kernel
theorem dX2_winGame_17 : decode cX2_winGame 17 = .ok (.putfield 158, 3) := by decide +kernel
theorem dX2_winGame_20 : decode cX2_winGame 20 = .ok (.aload_n 0, 1) := by decide +kernel
theorem dX2_winGame_21 : decode cX2_winGame 21 = .ok (.invokevirtual 134, 3) := by decide +kernel
theorem dX2_winGame_24 : decode cX2_winGame 24 = .ok (.aload_n 1, 1) := by decide +kernel
theorem dX2_winGame_25 : decode cX2_winGame 25 = .ok (.getfield 128, 3) := by decide +kernel
theorem dX2_winGame_28 : decode cX2_winGame 28 = .ok (.iconst 3, 1) := by decide +kernel
theorem dX2_winGame_29 : decode cX2_winGame 29 = .ok (.if_icmp .lt 11, 3) := by decide +kernel
theorem dX2_winGame_32 : decode cX2_winGame 32 = .ok (.aload_n 0, 1) := by decide +kernel
theorem dX2_winGame_33 : decode cX2_winGame 33 = .ok (.aload_n 0, 1) := by decide +kernel
theorem dX2_winGame_34 : decode cX2_winGame 34 = .ok (.getfield 35, 3) := by decide +kernel
theorem dX2_winGame_37 : decode cX2_winGame 37 = .ok (.putfield 42, 3) := by decide +kernel
theorem dX2_winGame_40 : decode cX2_winGame 40 = .ok (.return_, 1) := by decide +kernel
theorem dX2_beginGame_0 : decode cX2_beginGame 0 = .ok (.aload_n 0, 1) := by decide +kernel
theorem dX2_beginGame_1 : decode cX2_beginGame 1 = .ok (.getfield 10, 3) := by decide +kernel
theorem dX2_beginGame_4 : decode cX2_beginGame 4 = .ok (.iconst 0, 1) := by decide +kernel
theorem dX2_beginGame_5 : decode cX2_beginGame 5 = .ok (.putfield 117, 3) := by decide +kernel
theorem dX2_beginGame_8 : decode cX2_beginGame 8 = .ok (.aload_n 0, 1) := by decide +kernel
theorem dX2_beginGame_9 : decode cX2_beginGame 9 = .ok (.getfield 16, 3) := by decide +kernel
theorem dX2_beginGame_12 : decode cX2_beginGame 12 = .ok (.iconst 0, 1) := by decide +kernel
theorem dX2_beginGame_13 : decode cX2_beginGame 13 = .ok (.putfield 117, 3) := by decide +kernel
theorem dX2_beginGame_16 : decode cX2_beginGame 16 = .ok (.aload_n 0, 1) := by decide +kernel
theorem dX2_beginGame_17 : decode cX2_beginGame 17 = .ok (.bipush 12, 2) := by decide +kernel
theorem dX2_beginGame_19 : decode cX2_beginGame 19 = .ok (.putfield 39, 3) := by decide +kernel
theorem dX2_beginGame_22 : decode cX2_beginGame 22 = .ok (.return_, 1) := by decide +kernel
theorem dX2_replayRally_0 : decode cX2_replayRally 0 = .ok (.aload_n 0, 1) := by decide +kernel
theorem dX2_replayRally_1 : decode cX2_replayRally 1 = .ok (.dup, 1) := by decide +kernel
theorem dX2_replayRally_2 : decode cX2_replayRally 2 = .ok (.getfield 155, 3) := by decide +kernel
theorem dX2_replayRally_5 : decode cX2_replayRally 5 = .ok (.iconst 1, 1) := by decide +kernel
theorem dX2_replayRally_6 : decode cX2_replayRally 6 = .ok (.iadd, 1) := by decide +kernel
theorem dX2_replayRally_7 : decode cX2_replayRally 7 = .ok (.putfield 155, 3) := by decide +kernel
theorem dX2_replayRally_10 : decode cX2_replayRally 10 = .ok (.aload_n 0, 1) := by decide +kernel
theorem dX2_replayRally_11 : decode cX2_replayRally 11 = .ok (.invokevirtual 131, 3) := by decide +kernel
theorem dX2_replayRally_14 : decode cX2_replayRally 14 = .ok (.return_, 1) := by decide +kernel
theorem dX2_closeRally_0 : decode cX2_closeRally 0 = .ok (.aload_n 0, 1) := by decide +kernel
theorem dX2_closeRally_1 : decode cX2_closeRally 1 = .ok (.iconst 0, 1) := by decide +kernel
theorem dX2_closeRally_2 : decode cX2_closeRally 2 = .ok (.putfield 56, 3) := by decide +kernel
theorem dX2_closeRally_5 : decode cX2_closeRally 5 = .ok (.aload_n 0, 1) := by decide +kernel
theorem dX2_closeRally_6 : decode cX2_closeRally 6 = .ok (.iconst 0, 1) := by decide +kernel
theorem dX2_closeRally_7 : decode cX2_closeRally 7 = .ok (.putfield 107, 3) := by decide +kernel
theorem dX2_closeRally_10 : decode cX2_closeRally 10 = .ok (.return_, 1) := by decide +kernel
theorem dX2_isMatchOver_0 : decode cX2_isMatchOver 0 = .ok (.aload_n 0, 1) := by decide +kernel
theorem dX2_isMatchOver_1 : decode cX2_isMatchOver 1 = .ok (.getfield 42, 3) := by decide +kernel
theorem dX2_isMatchOver_4 : decode cX2_isMatchOver 4 = .ok (.iconst (-1), 1) := by decide +kernel
theorem dX2_isMatchOver_5 : decode cX2_isMatchOver 5 = .ok (.if_icmp .eq 7, 3) := by decide +kernel
theorem dX2_isMatchOver_8 : decode cX2_isMatchOver 8 = .ok (.iconst 1, 1) := by decide +kernel
theorem dX2_isMatchOver_9 : decode cX2_isMatchOver 9 = .ok (.goto 4, 3) := by decide +kernel
theorem dX2_isMatchOver_12 : decode cX2_isMatchOver 12 = .ok (.iconst 0, 1) := by decide +kernel
theorem dX2_isMatchOver_13 : decode cX2_isMatchOver 13 = .ok (.ireturn, 1) := by decide +kernel
theorem dX2_canBeSet_0 : decode cX2_canBeSet 0 = .ok (.aload_n 0, 1) := by decide +kernel
theorem dX2_canBeSet_1 : decode cX2_canBeSet 1 = .ok (.getfield 56, 3) := by decide +kernel
theorem dX2_canBeSet_4 : decode cX2_canBeSet 4 = .ok (.ifCond .ne 57, 3) := by decide +kernel
theorem dX2_canBeSet_7 : decode cX2_canBeSet 7 = .ok (.aload_n 0, 1) := by decide +kernel
theorem dX2_canBeSet_8 : decode cX2_canBeSet 8 = .ok (.getfield 39, 3) := by decide +kernel
theorem dX2_canBeSet_11 : decode cX2_canBeSet 11 = .ok (.bipush 12, 2) := by decide +kernel
theorem dX2_canBeSet_13 : decode cX2_canBeSet 13 = .ok (.if_icmp .ne 48, 3) := by decide +kernel
theorem dX2_canBeSet_16 : decode cX2_canBeSet 16 = .ok (.aload_n 0, 1) := by decide +kernel
theorem dX2_canBeSet_17 : decode cX2_canBeSet 17 = .ok (.getfield 10, 3) := by decide +kernel
theorem dX2_canBeSet_20 : decode cX2_canBeSet 20 = .ok (.getfield 117, 3) := by decide +kernel
theorem dX2_canBeSet_23 : decode cX2_canBeSet 23 = .ok (.aload_n 0, 1) := by decide +kernel
theorem dX2_canBeSet_24 : decode cX2_canBeSet 24 = .ok (.getfield 16, 3) := by decide +kernel
theorem dX2_canBeSet_27 : decode cX2_canBeSet 27 = .ok (.getfield 117, 3) := by decide +kernel
theorem dX2_canBeSet_30 : decode cX2_canBeSet 30 = .ok (.if_icmp .ne 31, 3) := by decide +kernel
theorem dX2_canBeSet_33 : decode cX2_canBeSet 33 = .ok (.aload_n 0, 1) := by decide +kernel
theorem dX2_canBeSet_34 : decode cX2_canBeSet 34 = .ok (.getfield 10, 3) := by decide +kernel
theorem dX2_canBeSet_37 : decode cX2_canBeSet 37 = .ok (.getfield 117, 3) := by decide +kernel
theorem dX2_canBeSet_40 : decode cX2_canBeSet 40 = .ok (.bipush 10, 2) := by decide +kernel
theorem dX2_canBeSet_42 : decode cX2_canBeSet 42 = .ok (.if_icmp .eq 15, 3) := by decide +kernel
theorem dX2_canBeSet_45 : decode cX2_canBeSet 45 = .ok (.aload_n 0, 1) := by decide +kernel
theorem dX2_canBeSet_46 : decode cX2_canBeSet 46 = .ok (.getfield 10, 3) := by decide +kernel
theorem dX2_canBeSet_49 : decode cX2_canBeSet 49 = .ok (.getfield 117, 3) := by decide +kernel
theorem dX2_canBeSet_52 : decode cX2_canBeSet 52 = .ok (.bipush 11, 2) := by decide +kernel
theorem dX2_canBeSet_54 : decode cX2_canBeSet 54 = .ok (.if_icmp .ne 7, 3) := by decide +kernel
theorem dX2_canBeSet_57 : decode cX2_canBeSet 57 = .ok (.iconst 1, 1) := by decide +kernel
theorem dX2_canBeSet_58 : decode cX2_canBeSet 58 = .ok (.goto 4, 3) := by decide +kernel
theorem dX2_canBeSet_61 : decode cX2_canBeSet 61 = .ok (.iconst 0, 1) := by decide +kernel
theorem dX2_canBeSet_62 : decode cX2_canBeSet 62 = .ok (.ireturn, 1) := by decide +kernel
theorem dX2_play_0 : decode cX2_play 0 = .ok (.aload_n 0, 1) := by decide +kernel
theorem dX2_play_1 : decode cX2_play 1 = .ok (.getfield 22, 3) := by decide +kernel
theorem dX2_play_4 : decode cX2_play 4 = .ok (.iload_n 2, 1) := by decide +kernel
theorem dX2_play_5 : decode cX2_play 5 = .ok (.iload_n 3, 1) := by decide +kernel
theorem dX2_play_6 : decode cX2_play 6 = .ok (.iload 4, 2) := by decide +kernel
theorem dX2_play_8 : decode cX2_play 8 = .ok (.invokevirtual 224, 3) := by decide +kernel
theorem dX2_play_11 : decode cX2_play 11 = .ok (.aload_n 0, 1) := by decide +kernel
theorem dX2_play_12 : decode cX2_play 12 = .ok (.getfield 26, 3) := by decide +kernel
theorem dX2_play_15 : decode cX2_play 15 = .ok (.aload_n 0, 1) := by decide +kernel
theorem dX2_play_16 : decode cX2_play 16 = .ok (.getfield 22, 3) := by decide +kernel
theorem dX2_play_19 : decode cX2_play 19 = .ok (.invokevirtual 100, 3) := by decide +kernel
theorem dX2_play_22 : decode cX2_play 22 = .ok (.aload_n 0, 1) := by decide +kernel
theorem dX2_play_23 : decode cX2_play 23 = .ok (.getfield 26, 3) := by decide +kernel
theorem dX2_play_26 : decode cX2_play 26 = .ok (.ldc 178, 2) := by decide +kernel
theorem dX2_play_28 : decode cX2_play 28 = .ok (.invokevirtual 228, 3) := by decide +kernel
theorem dX2_play_31 : decode cX2_play 31 = .ok (.aload_n 0, 1) := by decide +kernel
theorem dX2_play_32 : decode cX2_play 32 = .ok (.dup, 1) := by decide +kernel
theorem dX2_play_33 : decode cX2_play 33 = .ok (.getfield 107, 3) := by decide +kernel
theorem dX2_play_36 : decode cX2_play 36 = .ok (.iconst 1, 1) := by decide +kernel
theorem dX2_play_37 : decode cX2_play 37 = .ok (.iadd, 1) := by decide +kernel
theorem dX2_play_38 : decode cX2_play 38 = .ok (.putfield 107, 3) := by decide +kernel
theorem dX2_play_41 : decode cX2_play 41 = .ok (.aload_n 0, 1) := by decide +kernel
theorem dX2_play_42 : decode cX2_play 42 = .ok (.iload_n 1, 1) := by decide +kernel
theorem dX2_play_43 : decode cX2_play 43 = .ok (.invokevirtual 147, 3) := by decide +kernel
theorem dX2_play_46 : decode cX2_play 46 = .ok (.dup, 1) := by decide +kernel
theorem dX2_play_47 : decode cX2_play 47 = .ok (.getfield 231, 3) := by decide +kernel
theorem dX2_play_50 : decode cX2_play 50 = .ok (.iconst 1, 1) := by decide +kernel
theorem dX2_play_51 : decode cX2_play 51 = .ok (.iadd, 1) := by decide +kernel
theorem dX2_play_52 : decode cX2_play 52 = .ok (.putfield 231, 3) := by decide +kernel
theorem dX2_play_55 : decode cX2_play 55 = .ok (.return_, 1) := by decide +kernel
theorem dX2_isEndedBy_0 : decode cX2_isEndedBy 0 = .ok (.aload_n 0, 1) := by decide +kernel
theorem dX2_isEndedBy_1 : decode cX2_isEndedBy 1 = .ok (.getfield 26, 3) := by decide +kernel
theorem dX2_isEndedBy_4 : decode cX2_isEndedBy 4 = .ok (.getfield 232, 3) := by decide +kernel
theorem dX2_isEndedBy_7 : decode cX2_isEndedBy 7 = .ok (.iload_n 1, 1) := by decide +kernel
theorem dX2_isEndedBy_8 : decode cX2_isEndedBy 8 = .ok (.if_icmp .gt 7, 3) := by decide +kernel
theorem dX2_isEndedBy_11 : decode cX2_isEndedBy 11 = .ok (.iconst 1, 1) := by decide +kernel
theorem dX2_isEndedBy_12 : decode cX2_isEndedBy 12 = .ok (.goto 4, 3) := by decide +kernel
theorem dX2_isEndedBy_15 : decode cX2_isEndedBy 15 = .ok (.iconst 0, 1) := by decide +kernel
theorem dX2_isEndedBy_16 : decode cX2_isEndedBy 16 = .ok (.ireturn, 1) := by decide +kernel
theorem dX2_lookAhead_0 : decode cX2_lookAhead 0 = .ok (.aload_n 0, 1) := by decide +kernel
theorem dX2_lookAhead_1 : decode cX2_lookAhead 1 = .ok (.getfield 29, 3) := by decide +kernel
theorem dX2_lookAhead_4 : decode cX2_lookAhead 4 = .ok (.aload_n 0, 1) := by decide +kernel
theorem dX2_lookAhead_5 : decode cX2_lookAhead 5 = .ok (.getfield 22, 3) := by decide +kernel
theorem dX2_lookAhead_8 : decode cX2_lookAhead 8 = .ok (.invokevirtual 100, 3) := by decide +kernel
theorem dX2_lookAhead_11 : decode cX2_lookAhead 11 = .ok (.aload_n 0, 1) := by decide +kernel
theorem dX2_lookAhead_12 : decode cX2_lookAhead 12 = .ok (.getfield 29, 3) := by decide +kernel
theorem dX2_lookAhead_15 : decode cX2_lookAhead 15 = .ok (.iload_n 1, 1) := by decide +kernel
theorem dX2_lookAhead_16 : decode cX2_lookAhead 16 = .ok (.invokevirtual 228, 3) := by decide +kernel
theorem dX2_lookAhead_19 : decode cX2_lookAhead 19 = .ok (.return_, 1) := by decide +kernel
theorem dX2_placeAhead_0 : decode cX2_placeAhead 0 = .ok (.aload_n 0, 1) := by decide +kernel
theorem dX2_placeAhead_1 : decode cX2_placeAhead 1 = .ok (.getfield 56, 3) := by decide +kernel
theorem dX2_placeAhead_4 : decode cX2_placeAhead 4 = .ok (.ifCond .ne 27, 3) := by decide +kernel
theorem dX2_placeAhead_7 : decode cX2_placeAhead 7 = .ok (.aload_n 0, 1) := by decide +kernel
theorem dX2_placeAhead_8 : decode cX2_placeAhead 8 = .ok (.getfield 29, 3) := by decide +kernel
theorem dX2_placeAhead_11 : decode cX2_placeAhead 11 = .ok (.invokevirtual 69, 3) := by decide +kernel
theorem dX2_placeAhead_14 : decode cX2_placeAhead 14 = .ok (.iload_n 1, 1) := by decide +kernel
theorem dX2_placeAhead_15 : decode cX2_placeAhead 15 = .ok (.ifCond .ne 14, 3) := by decide +kernel
theorem dX2_placeAhead_18 : decode cX2_placeAhead 18 = .ok (.aload_n 0, 1) := by decide +kernel
theorem dX2_placeAhead_19 : decode cX2_placeAhead 19 = .ok (.invokevirtual 60, 3) := by decide +kernel
theorem dX2_placeAhead_22 : decode cX2_placeAhead 22 = .ok (.ifCond .ne 7, 3) := by decide +kernel
theorem dX2_placeAhead_25 : decode cX2_placeAhead 25 = .ok (.iconst 1, 1) := by decide +kernel
theorem dX2_placeAhead_26 : decode cX2_placeAhead 26 = .ok (.goto 4, 3) := by decide +kernel
theorem dX2_placeAhead_29 : decode cX2_placeAhead 29 = .ok (.iconst 0, 1) := by decide +kernel
theorem dX2_placeAhead_30 : decode cX2_placeAhead 30 = .ok (.ireturn, 1) := by decide +kernel
theorem dX2_placeAhead_31 : decode cX2_placeAhead 31 = .ok (.iload_n 1, 1) := by decide +kernel
theorem dX2_placeAhead_32 : decode cX2_placeAhead 32 = .ok (.ifCond .eq 11, 3) := by decide +kernel
theorem dX2_placeAhead_35 : decode cX2_placeAhead 35 = .ok (.aload_n 0, 1) := by decide +kernel
theorem dX2_placeAhead_36 : decode cX2_placeAhead 36 = .ok (.iload_n 1, 1) := by decide +kernel
theorem dX2_placeAhead_37 : decode cX2_placeAhead 37 = .ok (.invokevirtual 78, 3) := by decide +kernel
theorem dX2_placeAhead_40 : decode cX2_placeAhead 40 = .ok (.ifCond .eq 5, 3) := by decide +kernel
theorem dX2_placeAhead_43 : decode cX2_placeAhead 43 = .ok (.iconst 0, 1) := by decide +kernel
theorem dX2_placeAhead_44 : decode cX2_placeAhead 44 = .ok (.ireturn, 1) := by decide +kernel
theorem dX2_placeAhead_45 : decode cX2_placeAhead 45 = .ok (.aload_n 0, 1) := by decide +kernel
theorem dX2_placeAhead_46 : decode cX2_placeAhead 46 = .ok (.iload_n 1, 1) := by decide +kernel
theorem dX2_placeAhead_47 : decode cX2_placeAhead 47 = .ok (.invokevirtual 90, 3) := by decide +kernel
theorem dX2_placeAhead_50 : decode cX2_placeAhead 50 = .ok (.aload_n 0, 1) := by decide +kernel
theorem dX2_placeAhead_51 : decode cX2_placeAhead 51 = .ok (.getfield 29, 3) := by decide +kernel
theorem dX2_placeAhead_54 : decode cX2_placeAhead 54 = .ok (.getfield 94, 3) := by decide +kernel
theorem dX2_placeAhead_57 : decode cX2_placeAhead 57 = .ok (.ifCond .le 7, 3) := by decide +kernel
theorem dX2_placeAhead_60 : decode cX2_placeAhead 60 = .ok (.iconst 1, 1) := by decide +kernel
theorem dX2_placeAhead_61 : decode cX2_placeAhead 61 = .ok (.goto 4, 3) := by decide +kernel
theorem dX2_placeAhead_64 : decode cX2_placeAhead 64 = .ok (.iconst 0, 1) := by decide +kernel
theorem dX2_placeAhead_65 : decode cX2_placeAhead 65 = .ok (.ireturn, 1) := by decide +kernel
theorem dX2_tryStroke_0 : decode cX2_tryStroke 0 = .ok (.aload_n 0, 1) := by decide +kernel
theorem dX2_tryStroke_1 : decode cX2_tryStroke 1 = .ok (.getfield 32, 3) := by decide +kernel
theorem dX2_tryStroke_4 : decode cX2_tryStroke 4 = .ok (.aload_n 0, 1) := by decide +kernel
theorem dX2_tryStroke_5 : decode cX2_tryStroke 5 = .ok (.getfield 29, 3) := by decide +kernel
theorem dX2_tryStroke_8 : decode cX2_tryStroke 8 = .ok (.invokevirtual 100, 3) := by decide +kernel
theorem dX2_tryStroke_11 : decode cX2_tryStroke 11 = .ok (.aload_n 0, 1) := by decide +kernel
theorem dX2_tryStroke_12 : decode cX2_tryStroke 12 = .ok (.getfield 32, 3) := by decide +kernel
theorem dX2_tryStroke_15 : decode cX2_tryStroke 15 = .ok (.iload_n 1, 1) := by decide +kernel
theorem dX2_tryStroke_16 : decode cX2_tryStroke 16 = .ok (.iload_n 2, 1) := by decide +kernel
theorem dX2_tryStroke_17 : decode cX2_tryStroke 17 = .ok (.iload_n 3, 1) := by decide +kernel
theorem dX2_tryStroke_18 : decode cX2_tryStroke 18 = .ok (.invokevirtual 224, 3) := by decide +kernel
theorem dX2_tryStroke_21 : decode cX2_tryStroke 21 = .ok (.aload_n 0, 1) := by decide +kernel
theorem dX2_tryStroke_22 : decode cX2_tryStroke 22 = .ok (.getfield 32, 3) := by decide +kernel
theorem dX2_tryStroke_25 : decode cX2_tryStroke 25 = .ok (.iload 4, 2) := by decide +kernel
theorem dX2_tryStroke_27 : decode cX2_tryStroke 27 = .ok (.invokevirtual 228, 3) := by decide +kernel
theorem dX2_tryStroke_30 : decode cX2_tryStroke 30 = .ok (.return_, 1) := by decide +kernel
theorem dX2_shortestDeadStroke_0 : decode cX2_shortestDeadStroke 0 = .ok (.iconst (-1), 1) := by decide +kernel
theorem dX2_shortestDeadStroke_1 : decode cX2_shortestDeadStroke 1 = .ok (.istore_n 1, 1) := by decide +kernel
theorem dX2_shortestDeadStroke_2 : decode cX2_shortestDeadStroke 2 = .ok (.ldc 178, 2) := by decide +kernel
theorem dX2_shortestDeadStroke_4 : decode cX2_shortestDeadStroke 4 = .ok (.istore_n 2, 1) := by decide +kernel
theorem dX2_shortestDeadStroke_5 : decode cX2_shortestDeadStroke 5 = .ok (.bipush (-2), 2) := by decide +kernel
theorem dX2_shortestDeadStroke_7 : decode cX2_shortestDeadStroke 7 = .ok (.istore_n 3, 1) := by decide +kernel
theorem dX2_shortestDeadStroke_8 : decode cX2_shortestDeadStroke 8 = .ok (.iload_n 3, 1) := by decide +kernel
theorem dX2_shortestDeadStroke_9 : decode cX2_shortestDeadStroke 9 = .ok (.iconst 2, 1) := by decide +kernel
theorem dX2_shortestDeadStroke_10 : decode cX2_shortestDeadStroke 10 = .ok (.if_icmp .gt 90, 3) := by decide +kernel
theorem dX2_shortestDeadStroke_13 : decode cX2_shortestDeadStroke 13 = .ok (.bipush (-2), 2) := by decide +kernel
theorem dX2_shortestDeadStroke_15 : decode cX2_shortestDeadStroke 15 = .ok (.istore 4, 2) := by decide +kernel
theorem dX2_shortestDeadStroke_17 : decode cX2_shortestDeadStroke 17 = .ok (.iload 4, 2) := by decide +kernel
theorem dX2_shortestDeadStroke_19 : decode cX2_shortestDeadStroke 19 = .ok (.iconst 2, 1) := by decide +kernel
theorem dX2_shortestDeadStroke_20 : decode cX2_shortestDeadStroke 20 = .ok (.if_icmp .gt 74, 3) := by decide +kernel
theorem dX2_shortestDeadStroke_23 : decode cX2_shortestDeadStroke 23 = .ok (.iconst 0, 1) := by decide +kernel
theorem dX2_shortestDeadStroke_24 : decode cX2_shortestDeadStroke 24 = .ok (.istore 5, 2) := by decide +kernel
theorem dX2_shortestDeadStroke_26 : decode cX2_shortestDeadStroke 26 = .ok (.iload 5, 2) := by decide +kernel
theorem dX2_shortestDeadStroke_28 : decode cX2_shortestDeadStroke 28 = .ok (.bipush 9, 2) := by decide +kernel
theorem dX2_shortestDeadStroke_30 : decode cX2_shortestDeadStroke 30 = .ok (.if_icmp .gt 58, 3) := by decide +kernel
theorem dX2_shortestDeadStroke_33 : decode cX2_shortestDeadStroke 33 = .ok (.aload_n 0, 1) := by decide +kernel
theorem dX2_shortestDeadStroke_34 : decode cX2_shortestDeadStroke 34 = .ok (.iload_n 3, 1) := by decide +kernel
theorem dX2_shortestDeadStroke_35 : decode cX2_shortestDeadStroke 35 = .ok (.iload 4, 2) := by decide +kernel
theorem dX2_shortestDeadStroke_37 : decode cX2_shortestDeadStroke 37 = .ok (.iload 5, 2) := by decide +kernel
theorem dX2_shortestDeadStroke_39 : decode cX2_shortestDeadStroke 39 = .ok (.iload_n 2, 1) := by decide +kernel
theorem dX2_shortestDeadStroke_40 : decode cX2_shortestDeadStroke 40 = .ok (.invokevirtual 179, 3) := by decide +kernel
theorem dX2_shortestDeadStroke_43 : decode cX2_shortestDeadStroke 43 = .ok (.aload_n 0, 1) := by decide +kernel
theorem dX2_shortestDeadStroke_44 : decode cX2_shortestDeadStroke 44 = .ok (.getfield 32, 3) := by decide +kernel
theorem dX2_shortestDeadStroke_47 : decode cX2_shortestDeadStroke 47 = .ok (.getfield 182, 3) := by decide +kernel
theorem dX2_shortestDeadStroke_50 : decode cX2_shortestDeadStroke 50 = .ok (.iconst 3, 1) := by decide +kernel
theorem dX2_shortestDeadStroke_51 : decode cX2_shortestDeadStroke 51 = .ok (.if_icmp .ne 31, 3) := by decide +kernel
theorem dX2_shortestDeadStroke_54 : decode cX2_shortestDeadStroke 54 = .ok (.bipush 50, 2) := by decide +kernel
theorem dX2_shortestDeadStroke_56 : decode cX2_shortestDeadStroke 56 = .ok (.iload_n 3, 1) := by decide +kernel
theorem dX2_shortestDeadStroke_57 : decode cX2_shortestDeadStroke 57 = .ok (.iconst 2, 1) := by decide +kernel
theorem dX2_shortestDeadStroke_58 : decode cX2_shortestDeadStroke 58 = .ok (.iadd, 1) := by decide +kernel
theorem dX2_shortestDeadStroke_59 : decode cX2_shortestDeadStroke 59 = .ok (.imul, 1) := by decide +kernel
theorem dX2_shortestDeadStroke_60 : decode cX2_shortestDeadStroke 60 = .ok (.bipush 10, 2) := by decide +kernel
theorem dX2_shortestDeadStroke_62 : decode cX2_shortestDeadStroke 62 = .ok (.iload 4, 2) := by decide +kernel
theorem dX2_shortestDeadStroke_64 : decode cX2_shortestDeadStroke 64 = .ok (.iconst 2, 1) := by decide +kernel
theorem dX2_shortestDeadStroke_65 : decode cX2_shortestDeadStroke 65 = .ok (.iadd, 1) := by decide +kernel
theorem dX2_shortestDeadStroke_66 : decode cX2_shortestDeadStroke 66 = .ok (.imul, 1) := by decide +kernel
theorem dX2_shortestDeadStroke_67 : decode cX2_shortestDeadStroke 67 = .ok (.iadd, 1) := by decide +kernel
theorem dX2_shortestDeadStroke_68 : decode cX2_shortestDeadStroke 68 = .ok (.iload 5, 2) := by decide +kernel
theorem dX2_shortestDeadStroke_70 : decode cX2_shortestDeadStroke 70 = .ok (.iadd, 1) := by decide +kernel
theorem dX2_shortestDeadStroke_71 : decode cX2_shortestDeadStroke 71 = .ok (.istore_n 1, 1) := by decide +kernel
theorem dX2_shortestDeadStroke_72 : decode cX2_shortestDeadStroke 72 = .ok (.aload_n 0, 1) := by decide +kernel
theorem dX2_shortestDeadStroke_73 : decode cX2_shortestDeadStroke 73 = .ok (.getfield 32, 3) := by decide +kernel
theorem dX2_shortestDeadStroke_76 : decode cX2_shortestDeadStroke 76 = .ok (.getfield 232, 3) := by decide +kernel
theorem dX2_shortestDeadStroke_79 : decode cX2_shortestDeadStroke 79 = .ok (.iconst 1, 1) := by decide +kernel
theorem dX2_shortestDeadStroke_80 : decode cX2_shortestDeadStroke 80 = .ok (.isub, 1) := by decide +kernel
theorem dX2_shortestDeadStroke_81 : decode cX2_shortestDeadStroke 81 = .ok (.istore_n 2, 1) := by decide +kernel
theorem dX2_shortestDeadStroke_82 : decode cX2_shortestDeadStroke 82 = .ok (.iinc 5 1, 3) := by decide +kernel
theorem dX2_shortestDeadStroke_85 : decode cX2_shortestDeadStroke 85 = .ok (.goto (-59), 3) := by decide +kernel
theorem dX2_shortestDeadStroke_88 : decode cX2_shortestDeadStroke 88 = .ok (.iinc 4 1, 3) := by decide +kernel
theorem dX2_shortestDeadStroke_91 : decode cX2_shortestDeadStroke 91 = .ok (.goto (-74), 3) := by decide +kernel
theorem dX2_shortestDeadStroke_94 : decode cX2_shortestDeadStroke 94 = .ok (.iinc 3 1, 3) := by decide +kernel
theorem dX2_shortestDeadStroke_97 : decode cX2_shortestDeadStroke 97 = .ok (.goto (-89), 3) := by decide +kernel
theorem dX2_shortestDeadStroke_100 : decode cX2_shortestDeadStroke 100 = .ok (.iload_n 1, 1) := by decide +kernel
theorem dX2_shortestDeadStroke_101 : decode cX2_shortestDeadStroke 101 = .ok (.ireturn, 1) := by decide +kernel
theorem dX3_init_0 : decode cX3_init 0 = .ok (.aload_n 0, 1) := by decide +kernel
theorem dX3_init_1 : decode cX3_init 1 = .ok (.invokespecial 1, 3) := by decide +kernel
theorem dX3_init_4 : decode cX3_init 4 = .ok (.aload_n 0, 1) := by decide +kernel
theorem dX3_init_5 : decode cX3_init 5 = .ok (.bipush 9, 2) := by decide +kernel
theorem dX3_init_7 : decode cX3_init 7 = .ok (.newarray .int, 2) := by decide +kernel
theorem dX3_init_9 : decode cX3_init 9 = .ok (.putfield 9, 3) := by decide +kernel
theorem dX3_init_12 : decode cX3_init 12 = .ok (.aload_n 0, 1) := by decide +kernel
theorem dX3_init_13 : decode cX3_init 13 = .ok (.iconst 2, 1) := by decide +kernel
theorem dX3_init_14 : decode cX3_init 14 = .ok (.newarray .int, 2) := by decide +kernel
theorem dX3_init_16 : decode cX3_init 16 = .ok (.putfield 13, 3) := by decide +kernel
theorem dX3_init_19 : decode cX3_init 19 = .ok (.aload_n 0, 1) := by decide +kernel
theorem dX3_init_20 : decode cX3_init 20 = .ok (.iconst 2, 1) := by decide +kernel
theorem dX3_init_21 : decode cX3_init 21 = .ok (.newarray .int, 2) := by decide +kernel
theorem dX3_init_23 : decode cX3_init 23 = .ok (.putfield 16, 3) := by decide +kernel
theorem dX3_init_26 : decode cX3_init 26 = .ok (.aload_n 0, 1) := by decide +kernel
theorem dX3_init_27 : decode cX3_init 27 = .ok (.iconst 2, 1) := by decide +kernel
theorem dX3_init_28 : decode cX3_init 28 = .ok (.newarray .int, 2) := by decide +kernel
theorem dX3_init_30 : decode cX3_init 30 = .ok (.putfield 19, 3) := by decide +kernel
theorem dX3_init_33 : decode cX3_init 33 = .ok (.aload_n 0, 1) := by decide +kernel
theorem dX3_init_34 : decode cX3_init 34 = .ok (.iconst 2, 1) := by decide +kernel
theorem dX3_init_35 : decode cX3_init 35 = .ok (.newarray .int, 2) := by decide +kernel
theorem dX3_init_37 : decode cX3_init 37 = .ok (.putfield 22, 3) := by decide +kernel
theorem dX3_init_40 : decode cX3_init 40 = .ok (.aload_n 0, 1) := by decide +kernel
theorem dX3_init_41 : decode cX3_init 41 = .ok (.bipush 12, 2) := by decide +kernel
theorem dX3_init_43 : decode cX3_init 43 = .ok (.putfield 25, 3) := by decide +kernel
theorem dX3_init_46 : decode cX3_init 46 = .ok (.aload_n 0, 1) := by decide +kernel
theorem dX3_init_47 : decode cX3_init 47 = .ok (.bipush 9, 2) := by decide +kernel
theorem dX3_init_49 : decode cX3_init 49 = .ok (.newarray .int, 2) := by decide +kernel
theorem dX3_init_51 : decode cX3_init 51 = .ok (.putfield 29, 3) := by decide +kernel
theorem dX3_init_54 : decode cX3_init 54 = .ok (.return_, 1) := by decide +kernel
theorem dX3_thrown_0 : decode cX3_thrown 0 = .ok (.aload_n 0, 1) := by decide +kernel
theorem dX3_thrown_1 : decode cX3_thrown 1 = .ok (.getfield 32, 3) := by decide +kernel
theorem dX3_thrown_4 : decode cX3_thrown 4 = .ok (.ireturn, 1) := by decide +kernel
theorem dX3_no_0 : decode cX3_no 0 = .ok (.aload_n 0, 1) := by decide +kernel
theorem dX3_no_1 : decode cX3_no 1 = .ok (.iload_n 1, 1) := by decide +kernel
theorem dX3_no_2 : decode cX3_no 2 = .ok (.putfield 32, 3) := by decide +kernel
theorem dX3_no_5 : decode cX3_no 5 = .ok (.iconst 0, 1) := by decide +kernel
theorem dX3_no_6 : decode cX3_no 6 = .ok (.ireturn, 1) := by decide +kernel
theorem dX3_isIn_0 : decode cX3_isIn 0 = .ok (.iload_n 0, 1) := by decide +kernel
theorem dX3_isIn_1 : decode cX3_isIn 1 = .ok (.iload_n 1, 1) := by decide +kernel
theorem dX3_isIn_2 : decode cX3_isIn 2 = .ok (.if_icmp .lt 12, 3) := by decide +kernel
theorem dX3_isIn_5 : decode cX3_isIn 5 = .ok (.iload_n 0, 1) := by decide +kernel
theorem dX3_isIn_6 : decode cX3_isIn 6 = .ok (.iload_n 2, 1) := by decide +kernel
theorem dX3_isIn_7 : decode cX3_isIn 7 = .ok (.if_icmp .gt 7, 3) := by decide +kernel
theorem dX3_isIn_10 : decode cX3_isIn 10 = .ok (.iconst 1, 1) := by decide +kernel
theorem dX3_isIn_11 : decode cX3_isIn 11 = .ok (.goto 4, 3) := by decide +kernel
theorem dX3_isIn_14 : decode cX3_isIn 14 = .ok (.iconst 0, 1) := by decide +kernel
theorem dX3_isIn_15 : decode cX3_isIn 15 = .ok (.ireturn, 1) := by decide +kernel
theorem dX3_isStroke_0 : decode cX3_isStroke 0 = .ok (.iload_n 0, 1) := by decide +kernel
theorem dX3_isStroke_1 : decode cX3_isStroke 1 = .ok (.bipush (-2), 2) := by decide +kernel
theorem dX3_isStroke_3 : decode cX3_isStroke 3 = .ok (.iconst 2, 1) := by decide +kernel
theorem dX3_isStroke_4 : decode cX3_isStroke 4 = .ok (.invokestatic 35, 3) := by decide +kernel
theorem dX3_isStroke_7 : decode cX3_isStroke 7 = .ok (.ifCond .eq 27, 3) := by decide +kernel
theorem dX3_isStroke_10 : decode cX3_isStroke 10 = .ok (.iload_n 1, 1) := by decide +kernel
theorem dX3_isStroke_11 : decode cX3_isStroke 11 = .ok (.bipush (-2), 2) := by decide +kernel
theorem dX3_isStroke_13 : decode cX3_isStroke 13 = .ok (.iconst 2, 1) := by decide +kernel
theorem dX3_isStroke_14 : decode cX3_isStroke 14 = .ok (.invokestatic 35, 3) := by decide +kernel
theorem dX3_isStroke_17 : decode cX3_isStroke 17 = .ok (.ifCond .eq 17, 3) := by decide +kernel
theorem dX3_isStroke_20 : decode cX3_isStroke 20 = .ok (.iload_n 2, 1) := by decide +kernel
theorem dX3_isStroke_21 : decode cX3_isStroke 21 = .ok (.iconst 0, 1) := by decide +kernel
theorem dX3_isStroke_22 : decode cX3_isStroke 22 = .ok (.bipush 9, 2) := by decide +kernel
theorem dX3_isStroke_24 : decode cX3_isStroke 24 = .ok (.invokestatic 35, 3) := by decide +kernel
theorem dX3_isStroke_27 : decode cX3_isStroke 27 = .ok (.ifCond .eq 7, 3) := by decide +kernel
theorem dX3_isStroke_30 : decode cX3_isStroke 30 = .ok (.iconst 1, 1) := by decide +kernel
theorem dX3_isStroke_31 : decode cX3_isStroke 31 = .ok (.goto 4, 3) := by decide +kernel
theorem dX3_isStroke_34 : decode cX3_isStroke 34 = .ok (.iconst 0, 1) := by decide +kernel
theorem dX3_isStroke_35 : decode cX3_isStroke 35 = .ok (.ireturn, 1) := by decide +kernel
theorem dX3_isButtress_0 : decode cX3_isButtress 0 = .ok (.iload_n 0, 1) := by decide +kernel
theorem dX3_isButtress_1 : decode cX3_isButtress 1 = .ok (.iconst 2, 1) := by decide +kernel
theorem dX3_isButtress_2 : decode cX3_isButtress 2 = .ok (.if_icmp .ge 18, 3) := by decide +kernel
theorem dX3_isButtress_5 : decode cX3_isButtress 5 = .ok (.iload_n 1, 1) := by decide +kernel
theorem dX3_isButtress_6 : decode cX3_isButtress 6 = .ok (.bipush 10, 2) := by decide +kernel
theorem dX3_isButtress_8 : decode cX3_isButtress 8 = .ok (.bipush 12, 2) := by decide +kernel
theorem dX3_isButtress_10 : decode cX3_isButtress 10 = .ok (.invokestatic 35, 3) := by decide +kernel
theorem dX3_isButtress_13 : decode cX3_isButtress 13 = .ok (.ifCond .eq 7, 3) := by decide +kernel
theorem dX3_isButtress_16 : decode cX3_isButtress 16 = .ok (.iconst 1, 1) := by decide +kernel
theorem dX3_isButtress_17 : decode cX3_isButtress 17 = .ok (.goto 4, 3) := by decide +kernel
theorem dX3_isButtress_20 : decode cX3_isButtress 20 = .ok (.iconst 0, 1) := by decide +kernel
theorem dX3_isButtress_21 : decode cX3_isButtress 21 = .ok (.ireturn, 1) := by decide +kernel
theorem dX3_sign_0 : decode cX3_sign 0 = .ok (.iload_n 0, 1) := by decide +kernel
theorem dX3_sign_1 : decode cX3_sign 1 = .ok (.ifCond .ge 7, 3) := by decide +kernel
theorem dX3_sign_4 : decode cX3_sign 4 = .ok (.iconst (-1), 1) := by decide +kernel
theorem dX3_sign_5 : decode cX3_sign 5 = .ok (.goto 4, 3) := by decide +kernel
theorem dX3_sign_8 : decode cX3_sign 8 = .ok (.iconst 1, 1) := by decide +kernel
theorem dX3_sign_9 : decode cX3_sign 9 = .ok (.ireturn, 1) := by decide +kernel
theorem dX3_goAcross_0 : decode cX3_goAcross 0 = .ok (.aload_n 0, 1) := by decide +kernel
theorem dX3_goAcross_1 : decode cX3_goAcross 1 = .ok (.getfield 29, 3) := by decide +kernel
theorem dX3_goAcross_4 : decode cX3_goAcross 4 = .ok (.iconst 3, 1) := by decide +kernel
theorem dX3_goAcross_5 : decode cX3_goAcross 5 = .ok (.iaload, 1) := by decide +kernel
theorem dX3_goAcross_6 : decode cX3_goAcross 6 = .ok (.invokestatic 39, 3) := by decide +kernel
theorem dX3_goAcross_9 : decode cX3_goAcross 9 = .ok (.istore_n 1, 1) := by decide +kernel
theorem dX3_goAcross_10 : decode cX3_goAcross 10 = .ok (.iload_n 1, 1) := by decide +kernel
theorem dX3_goAcross_11 : decode cX3_goAcross 11 = .ok (.ifCond .le 83, 3) := by decide +kernel
theorem dX3_goAcross_14 : decode cX3_goAcross 14 = .ok (.aload_n 0, 1) := by decide +kernel
theorem dX3_goAcross_15 : decode cX3_goAcross 15 = .ok (.getfield 29, 3) := by decide +kernel
theorem dX3_goAcross_18 : decode cX3_goAcross 18 = .ok (.iconst 0, 1) := by decide +kernel
theorem dX3_goAcross_19 : decode cX3_goAcross 19 = .ok (.iaload, 1) := by decide +kernel
theorem dX3_goAcross_20 : decode cX3_goAcross 20 = .ok (.aload_n 0, 1) := by decide +kernel
theorem dX3_goAcross_21 : decode cX3_goAcross 21 = .ok (.getfield 29, 3) := by decide +kernel
theorem dX3_goAcross_24 : decode cX3_goAcross 24 = .ok (.iconst 3, 1) := by decide +kernel
theorem dX3_goAcross_25 : decode cX3_goAcross 25 = .ok (.iaload, 1) := by decide +kernel
theorem dX3_goAcross_26 : decode cX3_goAcross 26 = .ok (.invokestatic 45, 3) := by decide +kernel
theorem dX3_goAcross_29 : decode cX3_goAcross 29 = .ok (.iadd, 1) := by decide +kernel
theorem dX3_goAcross_30 : decode cX3_goAcross 30 = .ok (.istore_n 2, 1) := by decide +kernel
theorem dX3_goAcross_31 : decode cX3_goAcross 31 = .ok (.iload_n 2, 1) := by decide +kernel
theorem dX3_goAcross_32 : decode cX3_goAcross 32 = .ok (.iconst 0, 1) := by decide +kernel
theorem dX3_goAcross_33 : decode cX3_goAcross 33 = .ok (.bipush 11, 2) := by decide +kernel
theorem dX3_goAcross_35 : decode cX3_goAcross 35 = .ok (.invokestatic 35, 3) := by decide +kernel
theorem dX3_goAcross_38 : decode cX3_goAcross 38 = .ok (.ifCond .eq 26, 3) := by decide +kernel
theorem dX3_goAcross_41 : decode cX3_goAcross 41 = .ok (.iload_n 2, 1) := by decide +kernel
theorem dX3_goAcross_42 : decode cX3_goAcross 42 = .ok (.aload_n 0, 1) := by decide +kernel
theorem dX3_goAcross_43 : decode cX3_goAcross 43 = .ok (.getfield 29, 3) := by decide +kernel
theorem dX3_goAcross_46 : decode cX3_goAcross 46 = .ok (.iconst 1, 1) := by decide +kernel
theorem dX3_goAcross_47 : decode cX3_goAcross 47 = .ok (.iaload, 1) := by decide +kernel
theorem dX3_goAcross_48 : decode cX3_goAcross 48 = .ok (.invokestatic 48, 3) := by decide +kernel
theorem dX3_goAcross_51 : decode cX3_goAcross 51 = .ok (.ifCond .ne 13, 3) := by decide +kernel
theorem dX3_goAcross_54 : decode cX3_goAcross 54 = .ok (.aload_n 0, 1) := by decide +kernel
theorem dX3_goAcross_55 : decode cX3_goAcross 55 = .ok (.getfield 29, 3) := by decide +kernel
theorem dX3_goAcross_58 : decode cX3_goAcross 58 = .ok (.iconst 0, 1) := by decide +kernel
theorem dX3_goAcross_59 : decode cX3_goAcross 59 = .ok (.iload_n 2, 1) := by decide +kernel
theorem dX3_goAcross_60 : decode cX3_goAcross 60 = .ok (.iastore, 1) := by decide +kernel
theorem dX3_goAcross_61 : decode cX3_goAcross 61 = .ok (.goto 27, 3) := by decide +kernel
theorem dX3_goAcross_64 : decode cX3_goAcross 64 = .ok (.aload_n 0, 1) := by decide +kernel
theorem dX3_goAcross_65 : decode cX3_goAcross 65 = .ok (.getfield 29, 3) := by decide +kernel
theorem dX3_goAcross_68 : decode cX3_goAcross 68 = .ok (.iconst 3, 1) := by decide +kernel
theorem dX3_goAcross_69 : decode cX3_goAcross 69 = .ok (.aload_n 0, 1) := by decide +kernel
theorem dX3_goAcross_70 : decode cX3_goAcross 70 = .ok (.getfield 29, 3) := by decide +kernel
theorem dX3_goAcross_73 : decode cX3_goAcross 73 = .ok (.iconst 3, 1) := by decide +kernel
theorem dX3_goAcross_74 : decode cX3_goAcross 74 = .ok (.iaload, 1) := by decide +kernel
theorem dX3_goAcross_75 : decode cX3_goAcross 75 = .ok (.ineg, 1) := by decide +kernel
theorem dX3_goAcross_76 : decode cX3_goAcross 76 = .ok (.iastore, 1) := by decide +kernel
theorem dX3_goAcross_77 : decode cX3_goAcross 77 = .ok (.aload_n 0, 1) := by decide +kernel
theorem dX3_goAcross_78 : decode cX3_goAcross 78 = .ok (.getfield 29, 3) := by decide +kernel
theorem dX3_goAcross_81 : decode cX3_goAcross 81 = .ok (.bipush 8, 2) := by decide +kernel
theorem dX3_goAcross_83 : decode cX3_goAcross 83 = .ok (.dup2, 1) := by decide +kernel
theorem dX3_goAcross_84 : decode cX3_goAcross 84 = .ok (.iaload, 1) := by decide +kernel
theorem dX3_goAcross_85 : decode cX3_goAcross 85 = .ok (.iconst 1, 1) := by decide +kernel
theorem dX3_goAcross_86 : decode cX3_goAcross 86 = .ok (.iadd, 1) := by decide +kernel
theorem dX3_goAcross_87 : decode cX3_goAcross 87 = .ok (.iastore, 1) := by decide +kernel
theorem dX3_goAcross_88 : decode cX3_goAcross 88 = .ok (.iinc 1 (-1), 3) := by decide +kernel
theorem dX3_goAcross_91 : decode cX3_goAcross 91 = .ok (.goto (-81), 3) := by decide +kernel
theorem dX3_goAcross_94 : decode cX3_goAcross 94 = .ok (.return_, 1) := by decide +kernel
theorem dX3_goAlong_0 : decode cX3_goAlong 0 = .ok (.aload_n 0, 1) := by decide +kernel
theorem dX3_goAlong_1 : decode cX3_goAlong 1 = .ok (.getfield 29, 3) := by decide +kernel
theorem dX3_goAlong_4 : decode cX3_goAlong 4 = .ok (.iconst 4, 1) := by decide +kernel
theorem dX3_goAlong_5 : decode cX3_goAlong 5 = .ok (.iaload, 1) := by decide +kernel
theorem dX3_goAlong_6 : decode cX3_goAlong 6 = .ok (.invokestatic 39, 3) := by decide +kernel
theorem dX3_goAlong_9 : decode cX3_goAlong 9 = .ok (.istore_n 1, 1) := by decide +kernel
theorem dX3_goAlong_10 : decode cX3_goAlong 10 = .ok (.iload_n 1, 1) := by decide +kernel
theorem dX3_goAlong_11 : decode cX3_goAlong 11 = .ok (.ifCond .le 134, 3) := by decide +kernel
theorem dX3_goAlong_14 : decode cX3_goAlong 14 = .ok (.aload_n 0, 1) := by decide +kernel
theorem dX3_goAlong_15 : decode cX3_goAlong 15 = .ok (.getfield 29, 3) := by decide +kernel
theorem dX3_goAlong_18 : decode cX3_goAlong 18 = .ok (.iconst 1, 1) := by decide +kernel
theorem dX3_goAlong_19 : decode cX3_goAlong 19 = .ok (.iaload, 1) := by decide +kernel
theorem dX3_goAlong_20 : decode cX3_goAlong 20 = .ok (.aload_n 0, 1) := by decide +kernel
theorem dX3_goAlong_21 : decode cX3_goAlong 21 = .ok (.getfield 29, 3) := by decide +kernel
theorem dX3_goAlong_24 : decode cX3_goAlong 24 = .ok (.iconst 4, 1) := by decide +kernel
theorem dX3_goAlong_25 : decode cX3_goAlong 25 = .ok (.iaload, 1) := by decide +kernel
theorem dX3_goAlong_26 : decode cX3_goAlong 26 = .ok (.invokestatic 45, 3) := by decide +kernel
theorem dX3_goAlong_29 : decode cX3_goAlong 29 = .ok (.iadd, 1) := by decide +kernel
theorem dX3_goAlong_30 : decode cX3_goAlong 30 = .ok (.istore_n 2, 1) := by decide +kernel
theorem dX3_goAlong_31 : decode cX3_goAlong 31 = .ok (.iload_n 2, 1) := by decide +kernel
theorem dX3_goAlong_32 : decode cX3_goAlong 32 = .ok (.bipush 30, 2) := by decide +kernel
theorem dX3_goAlong_34 : decode cX3_goAlong 34 = .ok (.if_icmp .ne 19, 3) := by decide +kernel
theorem dX3_goAlong_37 : decode cX3_goAlong 37 = .ok (.aload_n 0, 1) := by decide +kernel
theorem dX3_goAlong_38 : decode cX3_goAlong 38 = .ok (.getfield 29, 3) := by decide +kernel
theorem dX3_goAlong_41 : decode cX3_goAlong 41 = .ok (.bipush 7, 2) := by decide +kernel
theorem dX3_goAlong_43 : decode cX3_goAlong 43 = .ok (.iaload, 1) := by decide +kernel
theorem dX3_goAlong_44 : decode cX3_goAlong 44 = .ok (.ifCond .le 7, 3) := by decide +kernel
theorem dX3_goAlong_47 : decode cX3_goAlong 47 = .ok (.iconst 3, 1) := by decide +kernel
theorem dX3_goAlong_48 : decode cX3_goAlong 48 = .ok (.goto 4, 3) := by decide +kernel
theorem dX3_goAlong_51 : decode cX3_goAlong 51 = .ok (.iconst 2, 1) := by decide +kernel
theorem dX3_goAlong_52 : decode cX3_goAlong 52 = .ok (.ireturn, 1) := by decide +kernel
theorem dX3_goAlong_53 : decode cX3_goAlong 53 = .ok (.iload_n 2, 1) := by decide +kernel
theorem dX3_goAlong_54 : decode cX3_goAlong 54 = .ok (.ifCond .ge 7, 3) := by decide +kernel
theorem dX3_goAlong_57 : decode cX3_goAlong 57 = .ok (.iconst 1, 1) := by decide +kernel
theorem dX3_goAlong_58 : decode cX3_goAlong 58 = .ok (.goto 4, 3) := by decide +kernel
theorem dX3_goAlong_61 : decode cX3_goAlong 61 = .ok (.iconst 0, 1) := by decide +kernel
theorem dX3_goAlong_62 : decode cX3_goAlong 62 = .ok (.istore_n 3, 1) := by decide +kernel
theorem dX3_goAlong_63 : decode cX3_goAlong 63 = .ok (.iload_n 3, 1) := by decide +kernel
theorem dX3_goAlong_64 : decode cX3_goAlong 64 = .ok (.ifCond .ne 26, 3) := by decide +kernel
theorem dX3_goAlong_67 : decode cX3_goAlong 67 = .ok (.aload_n 0, 1) := by decide +kernel
theorem dX3_goAlong_68 : decode cX3_goAlong 68 = .ok (.getfield 29, 3) := by decide +kernel
theorem dX3_goAlong_71 : decode cX3_goAlong 71 = .ok (.iconst 0, 1) := by decide +kernel
theorem dX3_goAlong_72 : decode cX3_goAlong 72 = .ok (.iaload, 1) := by decide +kernel
theorem dX3_goAlong_73 : decode cX3_goAlong 73 = .ok (.iload_n 2, 1) := by decide +kernel
theorem dX3_goAlong_74 : decode cX3_goAlong 74 = .ok (.invokestatic 48, 3) := by decide +kernel
theorem dX3_goAlong_77 : decode cX3_goAlong 77 = .ok (.ifCond .ne 13, 3) := by decide +kernel
theorem dX3_goAlong_80 : decode cX3_goAlong 80 = .ok (.aload_n 0, 1) := by decide +kernel
theorem dX3_goAlong_81 : decode cX3_goAlong 81 = .ok (.getfield 29, 3) := by decide +kernel
theorem dX3_goAlong_84 : decode cX3_goAlong 84 = .ok (.iconst 1, 1) := by decide +kernel
theorem dX3_goAlong_85 : decode cX3_goAlong 85 = .ok (.iload_n 2, 1) := by decide +kernel
theorem dX3_goAlong_86 : decode cX3_goAlong 86 = .ok (.iastore, 1) := by decide +kernel
theorem dX3_goAlong_87 : decode cX3_goAlong 87 = .ok (.goto 52, 3) := by decide +kernel
theorem dX3_goAlong_90 : decode cX3_goAlong 90 = .ok (.aload_n 0, 1) := by decide +kernel
theorem dX3_goAlong_91 : decode cX3_goAlong 91 = .ok (.getfield 29, 3) := by decide +kernel
theorem dX3_goAlong_94 : decode cX3_goAlong 94 = .ok (.iconst 4, 1) := by decide +kernel
theorem dX3_goAlong_95 : decode cX3_goAlong 95 = .ok (.aload_n 0, 1) := by decide +kernel
theorem dX3_goAlong_96 : decode cX3_goAlong 96 = .ok (.getfield 29, 3) := by decide +kernel
theorem dX3_goAlong_99 : decode cX3_goAlong 99 = .ok (.iconst 4, 1) := by decide +kernel
theorem dX3_goAlong_100 : decode cX3_goAlong 100 = .ok (.iaload, 1) := by decide +kernel
theorem dX3_goAlong_101 : decode cX3_goAlong 101 = .ok (.ineg, 1) := by decide +kernel
theorem dX3_goAlong_102 : decode cX3_goAlong 102 = .ok (.iastore, 1) := by decide +kernel
theorem dX3_goAlong_103 : decode cX3_goAlong 103 = .ok (.aload_n 0, 1) := by decide +kernel
theorem dX3_goAlong_104 : decode cX3_goAlong 104 = .ok (.getfield 29, 3) := by decide +kernel
theorem dX3_goAlong_107 : decode cX3_goAlong 107 = .ok (.iload_n 3, 1) := by decide +kernel
theorem dX3_goAlong_108 : decode cX3_goAlong 108 = .ok (.ifCond .eq 8, 3) := by decide +kernel
theorem dX3_goAlong_111 : decode cX3_goAlong 111 = .ok (.bipush 6, 2) := by decide +kernel
theorem dX3_goAlong_113 : decode cX3_goAlong 113 = .ok (.goto 5, 3) := by decide +kernel
theorem dX3_goAlong_116 : decode cX3_goAlong 116 = .ok (.bipush 8, 2) := by decide +kernel
theorem dX3_goAlong_118 : decode cX3_goAlong 118 = .ok (.dup2, 1) := by decide +kernel
theorem dX3_goAlong_119 : decode cX3_goAlong 119 = .ok (.iaload, 1) := by decide +kernel
theorem dX3_goAlong_120 : decode cX3_goAlong 120 = .ok (.iconst 1, 1) := by decide +kernel
theorem dX3_goAlong_121 : decode cX3_goAlong 121 = .ok (.iadd, 1) := by decide +kernel
theorem dX3_goAlong_122 : decode cX3_goAlong 122 = .ok (.iastore, 1) := by decide +kernel
theorem dX3_goAlong_123 : decode cX3_goAlong 123 = .ok (.iload_n 3, 1) := by decide +kernel
theorem dX3_goAlong_124 : decode cX3_goAlong 124 = .ok (.ifCond .eq 15, 3) := by decide +kernel
theorem dX3_goAlong_127 : decode cX3_goAlong 127 = .ok (.aload_n 0, 1) := by decide +kernel
theorem dX3_goAlong_128 : decode cX3_goAlong 128 = .ok (.getfield 29, 3) := by decide +kernel
theorem dX3_goAlong_131 : decode cX3_goAlong 131 = .ok (.iconst 2, 1) := by decide +kernel
theorem dX3_goAlong_132 : decode cX3_goAlong 132 = .ok (.iaload, 1) := by decide +kernel
theorem dX3_goAlong_133 : decode cX3_goAlong 133 = .ok (.iconst 4, 1) := by decide +kernel
theorem dX3_goAlong_134 : decode cX3_goAlong 134 = .ok (.if_icmp .ge 5, 3) := by decide +kernel
theorem dX3_goAlong_137 : decode cX3_goAlong 137 = .ok (.iconst 1, 1) := by decide +kernel
theorem dX3_goAlong_138 : decode cX3_goAlong 138 = .ok (.ireturn, 1) := by decide +kernel
theorem dX3_goAlong_139 : decode cX3_goAlong 139 = .ok (.iinc 1 (-1), 3) := by decide +kernel
theorem dX3_goAlong_142 : decode cX3_goAlong 142 = .ok (.goto (-132), 3) := by decide +kernel
theorem dX3_goAlong_145 : decode cX3_goAlong 145 = .ok (.iconst 0, 1) := by decide +kernel
theorem dX3_goAlong_146 : decode cX3_goAlong 146 = .ok (.ireturn, 1) := by decide +kernel
theorem dX3_fall_0 : decode cX3_fall 0 = .ok (.aload_n 0, 1) := by decide +kernel
theorem dX3_fall_1 : decode cX3_fall 1 = .ok (.getfield 29, 3) := by decide +kernel
theorem dX3_fall_4 : decode cX3_fall 4 = .ok (.iconst 2, 1) := by decide +kernel
theorem dX3_fall_5 : decode cX3_fall 5 = .ok (.dup2, 1) := by decide +kernel
theorem dX3_fall_6 : decode cX3_fall 6 = .ok (.iaload, 1) := by decide +kernel
theorem dX3_fall_7 : decode cX3_fall 7 = .ok (.aload_n 0, 1) := by decide +kernel
theorem dX3_fall_8 : decode cX3_fall 8 = .ok (.getfield 29, 3) := by decide +kernel
theorem dX3_fall_11 : decode cX3_fall 11 = .ok (.iconst 5, 1) := by decide +kernel
theorem dX3_fall_12 : decode cX3_fall 12 = .ok (.iaload, 1) := by decide +kernel
theorem dX3_fall_13 : decode cX3_fall 13 = .ok (.iadd, 1) := by decide +kernel
theorem dX3_fall_14 : decode cX3_fall 14 = .ok (.iastore, 1) := by decide +kernel
theorem dX3_fall_15 : decode cX3_fall 15 = .ok (.aload_n 0, 1) := by decide +kernel
theorem dX3_fall_16 : decode cX3_fall 16 = .ok (.getfield 29, 3) := by decide +kernel
theorem dX3_fall_19 : decode cX3_fall 19 = .ok (.iconst 5, 1) := by decide +kernel
theorem dX3_fall_20 : decode cX3_fall 20 = .ok (.dup2, 1) := by decide +kernel
theorem dX3_fall_21 : decode cX3_fall 21 = .ok (.iaload, 1) := by decide +kernel
theorem dX3_fall_22 : decode cX3_fall 22 = .ok (.iconst 1, 1) := by decide +kernel
theorem dX3_fall_23 : decode cX3_fall 23 = .ok (.isub, 1) := by decide +kernel
theorem dX3_fall_24 : decode cX3_fall 24 = .ok (.iastore, 1) := by decide +kernel
theorem dX3_fall_25 : decode cX3_fall 25 = .ok (.aload_n 0, 1) := by decide +kernel
theorem dX3_fall_26 : decode cX3_fall 26 = .ok (.getfield 29, 3) := by decide +kernel
theorem dX3_fall_29 : decode cX3_fall 29 = .ok (.iconst 2, 1) := by decide +kernel
theorem dX3_fall_30 : decode cX3_fall 30 = .ok (.iaload, 1) := by decide +kernel
theorem dX3_fall_31 : decode cX3_fall 31 = .ok (.ifCond .gt 12, 3) := by decide +kernel
theorem dX3_fall_34 : decode cX3_fall 34 = .ok (.aload_n 0, 1) := by decide +kernel
theorem dX3_fall_35 : decode cX3_fall 35 = .ok (.getfield 29, 3) := by decide +kernel
theorem dX3_fall_38 : decode cX3_fall 38 = .ok (.iconst 5, 1) := by decide +kernel
theorem dX3_fall_39 : decode cX3_fall 39 = .ok (.iaload, 1) := by decide +kernel
theorem dX3_fall_40 : decode cX3_fall 40 = .ok (.ifCond .lt 5, 3) := by decide +kernel
theorem dX3_fall_43 : decode cX3_fall 43 = .ok (.iconst 0, 1) := by decide +kernel
theorem dX3_fall_44 : decode cX3_fall 44 = .ok (.ireturn, 1) := by decide +kernel
theorem dX3_fall_45 : decode cX3_fall 45 = .ok (.aload_n 0, 1) := by decide +kernel
theorem dX3_fall_46 : decode cX3_fall 46 = .ok (.getfield 29, 3) := by decide +kernel
theorem dX3_fall_49 : decode cX3_fall 49 = .ok (.iconst 2, 1) := by decide +kernel
theorem dX3_fall_50 : decode cX3_fall 50 = .ok (.iconst 0, 1) := by decide +kernel
theorem dX3_fall_51 : decode cX3_fall 51 = .ok (.iastore, 1) := by decide +kernel
theorem dX3_fall_52 : decode cX3_fall 52 = .ok (.aload_n 0, 1) := by decide +kernel
theorem dX3_fall_53 : decode cX3_fall 53 = .ok (.getfield 29, 3) := by decide +kernel
theorem dX3_fall_56 : decode cX3_fall 56 = .ok (.iconst 5, 1) := by decide +kernel
theorem dX3_fall_57 : decode cX3_fall 57 = .ok (.aload_n 0, 1) := by decide +kernel
theorem dX3_fall_58 : decode cX3_fall 58 = .ok (.getfield 29, 3) := by decide +kernel
theorem dX3_fall_61 : decode cX3_fall 61 = .ok (.iconst 5, 1) := by decide +kernel
theorem dX3_fall_62 : decode cX3_fall 62 = .ok (.iaload, 1) := by decide +kernel
theorem dX3_fall_63 : decode cX3_fall 63 = .ok (.ineg, 1) := by decide +kernel
theorem dX3_fall_64 : decode cX3_fall 64 = .ok (.iconst 2, 1) := by decide +kernel
theorem dX3_fall_65 : decode cX3_fall 65 = .ok (.idiv, 1) := by decide +kernel
theorem dX3_fall_66 : decode cX3_fall 66 = .ok (.iastore, 1) := by decide +kernel
theorem dX3_fall_67 : decode cX3_fall 67 = .ok (.aload_n 0, 1) := by decide +kernel
theorem dX3_fall_68 : decode cX3_fall 68 = .ok (.getfield 29, 3) := by decide +kernel
theorem dX3_fall_71 : decode cX3_fall 71 = .ok (.bipush 7, 2) := by decide +kernel
theorem dX3_fall_73 : decode cX3_fall 73 = .ok (.dup2, 1) := by decide +kernel
theorem dX3_fall_74 : decode cX3_fall 74 = .ok (.iaload, 1) := by decide +kernel
theorem dX3_fall_75 : decode cX3_fall 75 = .ok (.iconst 1, 1) := by decide +kernel
theorem dX3_fall_76 : decode cX3_fall 76 = .ok (.iadd, 1) := by decide +kernel
theorem dX3_fall_77 : decode cX3_fall 77 = .ok (.iastore, 1) := by decide +kernel
theorem dX3_fall_78 : decode cX3_fall 78 = .ok (.aload_n 0, 1) := by decide +kernel
theorem dX3_fall_79 : decode cX3_fall 79 = .ok (.getfield 29, 3) := by decide +kernel
theorem dX3_fall_82 : decode cX3_fall 82 = .ok (.bipush 6, 2) := by decide +kernel
theorem dX3_fall_84 : decode cX3_fall 84 = .ok (.iaload, 1) := by decide +kernel
theorem dX3_fall_85 : decode cX3_fall 85 = .ok (.ifCond .ne 7, 3) := by decide +kernel
theorem dX3_fall_88 : decode cX3_fall 88 = .ok (.iconst 1, 1) := by decide +kernel
theorem dX3_fall_89 : decode cX3_fall 89 = .ok (.goto 19, 3) := by decide +kernel
theorem dX3_fall_92 : decode cX3_fall 92 = .ok (.aload_n 0, 1) := by decide +kernel
theorem dX3_fall_93 : decode cX3_fall 93 = .ok (.getfield 29, 3) := by decide +kernel
theorem dX3_fall_96 : decode cX3_fall 96 = .ok (.bipush 7, 2) := by decide +kernel
theorem dX3_fall_98 : decode cX3_fall 98 = .ok (.iaload, 1) := by decide +kernel
theorem dX3_fall_99 : decode cX3_fall 99 = .ok (.iconst 2, 1) := by decide +kernel
theorem dX3_fall_100 : decode cX3_fall 100 = .ok (.if_icmp .ne 7, 3) := by decide +kernel
theorem dX3_fall_103 : decode cX3_fall 103 = .ok (.iconst 3, 1) := by decide +kernel
theorem dX3_fall_104 : decode cX3_fall 104 = .ok (.goto 4, 3) := by decide +kernel
theorem dX3_fall_107 : decode cX3_fall 107 = .ok (.iconst 0, 1) := by decide +kernel
theorem dX3_fall_108 : decode cX3_fall 108 = .ok (.ireturn, 1) := by decide +kernel
theorem dX3_moment_0 : decode cX3_moment 0 = .ok (.aload_n 0, 1) := by decide +kernel
theorem dX3_moment_1 : decode cX3_moment 1 = .ok (.dup, 1) := by decide +kernel
theorem dX3_moment_2 : decode cX3_moment 2 = .ok (.getfield 52, 3) := by decide +kernel
theorem dX3_moment_5 : decode cX3_moment 5 = .ok (.iconst 1, 1) := by decide +kernel
theorem dX3_moment_6 : decode cX3_moment 6 = .ok (.iadd, 1) := by decide +kernel
theorem dX3_moment_7 : decode cX3_moment 7 = .ok (.putfield 52, 3) := by decide +kernel
theorem dX3_moment_10 : decode cX3_moment 10 = .ok (.aload_n 0, 1) := by decide +kernel
theorem dX3_moment_11 : decode cX3_moment 11 = .ok (.invokevirtual 55, 3) := by decide +kernel
theorem dX3_moment_14 : decode cX3_moment 14 = .ok (.aload_n 0, 1) := by decide +kernel
theorem dX3_moment_15 : decode cX3_moment 15 = .ok (.invokevirtual 58, 3) := by decide +kernel
theorem dX3_moment_18 : decode cX3_moment 18 = .ok (.istore_n 1, 1) := by decide +kernel
theorem dX3_moment_19 : decode cX3_moment 19 = .ok (.iload_n 1, 1) := by decide +kernel
theorem dX3_moment_20 : decode cX3_moment 20 = .ok (.ifCond .le 7, 3) := by decide +kernel
theorem dX3_moment_23 : decode cX3_moment 23 = .ok (.iload_n 1, 1) := by decide +kernel
theorem dX3_moment_24 : decode cX3_moment 24 = .ok (.goto 7, 3) := by decide +kernel
theorem dX3_moment_27 : decode cX3_moment 27 = .ok (.aload_n 0, 1) := by decide +kernel
theorem dX3_moment_28 : decode cX3_moment 28 = .ok (.invokevirtual 62, 3) := by decide +kernel
theorem dX3_moment_31 : decode cX3_moment 31 = .ok (.ireturn, 1) := by decide +kernel
theorem dX3_look_0 : decode cX3_look 0 = .ok (.aload_n 1, 1) := by decide +kernel
theorem dX3_look_1 : decode cX3_look 1 = .ok (.iconst 0, 1) := by decide +kernel
theorem dX3_look_2 : decode cX3_look 2 = .ok (.aload_n 0, 1) := by decide +kernel
theorem dX3_look_3 : decode cX3_look 3 = .ok (.getfield 29, 3) := by decide +kernel
theorem dX3_look_6 : decode cX3_look 6 = .ok (.iconst 0, 1) := by decide +kernel
theorem dX3_look_7 : decode cX3_look 7 = .ok (.bipush 9, 2) := by decide +kernel
theorem dX3_look_9 : decode cX3_look 9 = .ok (.invokestatic 65, 3) := by decide +kernel
theorem dX3_look_12 : decode cX3_look 12 = .ok (.aload_n 0, 1) := by decide +kernel
theorem dX3_look_13 : decode cX3_look 13 = .ok (.iconst 0, 1) := by decide +kernel
theorem dX3_look_14 : decode cX3_look 14 = .ok (.putfield 52, 3) := by decide +kernel
theorem dX3_look_17 : decode cX3_look 17 = .ok (.return_, 1) := by decide +kernel
theorem dX3_flyOn_0 : decode cX3_flyOn 0 = .ok (.aload_n 0, 1) := by decide +kernel
theorem dX3_flyOn_1 : decode cX3_flyOn 1 = .ok (.aload_n 0, 1) := by decide +kernel
theorem dX3_flyOn_2 : decode cX3_flyOn 2 = .ok (.getfield 9, 3) := by decide +kernel
theorem dX3_flyOn_5 : decode cX3_flyOn 5 = .ok (.invokevirtual 71, 3) := by decide +kernel
theorem dX3_flyOn_8 : decode cX3_flyOn 8 = .ok (.iconst 0, 1) := by decide +kernel
theorem dX3_flyOn_9 : decode cX3_flyOn 9 = .ok (.istore_n 2, 1) := by decide +kernel
theorem dX3_flyOn_10 : decode cX3_flyOn 10 = .ok (.iload_n 2, 1) := by decide +kernel
theorem dX3_flyOn_11 : decode cX3_flyOn 11 = .ok (.iload_n 1, 1) := by decide +kernel
theorem dX3_flyOn_12 : decode cX3_flyOn 12 = .ok (.if_icmp .ge 20, 3) := by decide +kernel
theorem dX3_flyOn_15 : decode cX3_flyOn 15 = .ok (.aload_n 0, 1) := by decide +kernel
theorem dX3_flyOn_16 : decode cX3_flyOn 16 = .ok (.invokevirtual 75, 3) := by decide +kernel
theorem dX3_flyOn_19 : decode cX3_flyOn 19 = .ok (.istore_n 3, 1) := by decide +kernel
theorem dX3_flyOn_20 : decode cX3_flyOn 20 = .ok (.iload_n 3, 1) := by decide +kernel
theorem dX3_flyOn_21 : decode cX3_flyOn 21 = .ok (.ifCond .le 5, 3) := by decide +kernel
theorem dX3_flyOn_24 : decode cX3_flyOn 24 = .ok (.iload_n 3, 1) := by decide +kernel
theorem dX3_flyOn_25 : decode cX3_flyOn 25 = .ok (.ireturn, 1) := by decide +kernel
theorem dX3_flyOn_26 : decode cX3_flyOn 26 = .ok (.iinc 2 1, 3) := by decide +kernel
theorem dX3_flyOn_29 : decode cX3_flyOn 29 = .ok (.goto (-19), 3) := by decide +kernel
theorem dX3_flyOn_32 : decode cX3_flyOn 32 = .ok (.iconst 0, 1) := by decide +kernel
theorem dX3_flyOn_33 : decode cX3_flyOn 33 = .ok (.ireturn, 1) := by decide +kernel
theorem dX3_finish_0 : decode cX3_finish 0 = .ok (.iconst 0, 1) := by decide +kernel
theorem dX3_finish_1 : decode cX3_finish 1 = .ok (.istore_n 1, 1) := by decide +kernel
theorem dX3_finish_2 : decode cX3_finish 2 = .ok (.iload_n 1, 1) := by decide +kernel
theorem dX3_finish_3 : decode cX3_finish 3 = .ok (.ifCond .ne 11, 3) := by decide +kernel
theorem dX3_finish_6 : decode cX3_finish 6 = .ok (.aload_n 0, 1) := by decide +kernel
theorem dX3_finish_7 : decode cX3_finish 7 = .ok (.invokevirtual 75, 3) := by decide +kernel
theorem dX3_finish_10 : decode cX3_finish 10 = .ok (.istore_n 1, 1) := by decide +kernel
theorem dX3_finish_11 : decode cX3_finish 11 = .ok (.goto (-9), 3) := by decide +kernel
theorem dX3_finish_14 : decode cX3_finish 14 = .ok (.iload_n 1, 1) := by decide +kernel
theorem dX3_finish_15 : decode cX3_finish 15 = .ok (.ireturn, 1) := by decide +kernel
theorem dX3_fullFlight_0 : decode cX3_fullFlight 0 = .ok (.aload_n 0, 1) := by decide +kernel
theorem dX3_fullFlight_1 : decode cX3_fullFlight 1 = .ok (.aload_n 0, 1) := by decide +kernel
theorem dX3_fullFlight_2 : decode cX3_fullFlight 2 = .ok (.getfield 9, 3) := by decide +kernel
theorem dX3_fullFlight_5 : decode cX3_fullFlight 5 = .ok (.invokevirtual 71, 3) := by decide +kernel
theorem dX3_fullFlight_8 : decode cX3_fullFlight 8 = .ok (.aload_n 0, 1) := by decide +kernel
theorem dX3_fullFlight_9 : decode cX3_fullFlight 9 = .ok (.invokevirtual 78, 3) := by decide +kernel
theorem dX3_fullFlight_12 : decode cX3_fullFlight 12 = .ok (.ireturn, 1) := by decide +kernel
theorem dX3_hit_0 : decode cX3_hit 0 = .ok (.aload_n 0, 1) := by decide +kernel
theorem dX3_hit_1 : decode cX3_hit 1 = .ok (.getfield 29, 3) := by decide +kernel
theorem dX3_hit_4 : decode cX3_hit 4 = .ok (.iconst 2, 1) := by decide +kernel
theorem dX3_hit_5 : decode cX3_hit 5 = .ok (.iconst 1, 1) := by decide +kernel
theorem dX3_hit_6 : decode cX3_hit 6 = .ok (.aload_n 0, 1) := by decide +kernel
theorem dX3_hit_7 : decode cX3_hit 7 = .ok (.getfield 29, 3) := by decide +kernel
theorem dX3_hit_10 : decode cX3_hit 10 = .ok (.iconst 2, 1) := by decide +kernel
theorem dX3_hit_11 : decode cX3_hit 11 = .ok (.iaload, 1) := by decide +kernel
theorem dX3_hit_12 : decode cX3_hit 12 = .ok (.invokestatic 81, 3) := by decide +kernel
theorem dX3_hit_15 : decode cX3_hit 15 = .ok (.iastore, 1) := by decide +kernel
theorem dX3_hit_16 : decode cX3_hit 16 = .ok (.aload_n 0, 1) := by decide +kernel
theorem dX3_hit_17 : decode cX3_hit 17 = .ok (.getfield 29, 3) := by decide +kernel
theorem dX3_hit_20 : decode cX3_hit 20 = .ok (.iconst 3, 1) := by decide +kernel
theorem dX3_hit_21 : decode cX3_hit 21 = .ok (.iload_n 1, 1) := by decide +kernel
theorem dX3_hit_22 : decode cX3_hit 22 = .ok (.iastore, 1) := by decide +kernel
theorem dX3_hit_23 : decode cX3_hit 23 = .ok (.aload_n 0, 1) := by decide +kernel
theorem dX3_hit_24 : decode cX3_hit 24 = .ok (.getfield 29, 3) := by decide +kernel
theorem dX3_hit_27 : decode cX3_hit 27 = .ok (.iconst 4, 1) := by decide +kernel
theorem dX3_hit_28 : decode cX3_hit 28 = .ok (.iload_n 2, 1) := by decide +kernel
theorem dX3_hit_29 : decode cX3_hit 29 = .ok (.iastore, 1) := by decide +kernel
theorem dX3_hit_30 : decode cX3_hit 30 = .ok (.aload_n 0, 1) := by decide +kernel
theorem dX3_hit_31 : decode cX3_hit 31 = .ok (.getfield 29, 3) := by decide +kernel
theorem dX3_hit_34 : decode cX3_hit 34 = .ok (.iconst 5, 1) := by decide +kernel
theorem dX3_hit_35 : decode cX3_hit 35 = .ok (.iload_n 3, 1) := by decide +kernel
theorem dX3_hit_36 : decode cX3_hit 36 = .ok (.iastore, 1) := by decide +kernel
theorem dX3_hit_37 : decode cX3_hit 37 = .ok (.aload_n 0, 1) := by decide +kernel
theorem dX3_hit_38 : decode cX3_hit 38 = .ok (.getfield 29, 3) := by decide +kernel
theorem dX3_hit_41 : decode cX3_hit 41 = .ok (.bipush 6, 2) := by decide +kernel
theorem dX3_hit_43 : decode cX3_hit 43 = .ok (.iconst 0, 1) := by decide +kernel
theorem dX3_hit_44 : decode cX3_hit 44 = .ok (.iastore, 1) := by decide +kernel
theorem dX3_hit_45 : decode cX3_hit 45 = .ok (.aload_n 0, 1) := by decide +kernel
theorem dX3_hit_46 : decode cX3_hit 46 = .ok (.getfield 29, 3) := by decide +kernel
theorem dX3_hit_49 : decode cX3_hit 49 = .ok (.bipush 7, 2) := by decide +kernel
theorem dX3_hit_51 : decode cX3_hit 51 = .ok (.iconst 0, 1) := by decide +kernel
theorem dX3_hit_52 : decode cX3_hit 52 = .ok (.iastore, 1) := by decide +kernel
theorem dX3_hit_53 : decode cX3_hit 53 = .ok (.aload_n 0, 1) := by decide +kernel
theorem dX3_hit_54 : decode cX3_hit 54 = .ok (.getfield 29, 3) := by decide +kernel
theorem dX3_hit_57 : decode cX3_hit 57 = .ok (.bipush 8, 2) := by decide +kernel
theorem dX3_hit_59 : decode cX3_hit 59 = .ok (.iconst 0, 1) := by decide +kernel
theorem dX3_hit_60 : decode cX3_hit 60 = .ok (.iastore, 1) := by decide +kernel
theorem dX3_hit_61 : decode cX3_hit 61 = .ok (.return_, 1) := by decide +kernel
theorem dX3_putToServe_0 : decode cX3_putToServe 0 = .ok (.aload_n 0, 1) := by decide +kernel
theorem dX3_putToServe_1 : decode cX3_putToServe 1 = .ok (.getfield 29, 3) := by decide +kernel
theorem dX3_putToServe_4 : decode cX3_putToServe 4 = .ok (.iconst 0, 1) := by decide +kernel
theorem dX3_putToServe_5 : decode cX3_putToServe 5 = .ok (.bipush 6, 2) := by decide +kernel
theorem dX3_putToServe_7 : decode cX3_putToServe 7 = .ok (.iastore, 1) := by decide +kernel
theorem dX3_putToServe_8 : decode cX3_putToServe 8 = .ok (.aload_n 0, 1) := by decide +kernel
theorem dX3_putToServe_9 : decode cX3_putToServe 9 = .ok (.getfield 29, 3) := by decide +kernel
theorem dX3_putToServe_12 : decode cX3_putToServe 12 = .ok (.iconst 1, 1) := by decide +kernel
theorem dX3_putToServe_13 : decode cX3_putToServe 13 = .ok (.bipush 14, 2) := by decide +kernel
theorem dX3_putToServe_15 : decode cX3_putToServe 15 = .ok (.iastore, 1) := by decide +kernel
theorem dX3_putToServe_16 : decode cX3_putToServe 16 = .ok (.aload_n 0, 1) := by decide +kernel
theorem dX3_putToServe_17 : decode cX3_putToServe 17 = .ok (.getfield 29, 3) := by decide +kernel
theorem dX3_putToServe_20 : decode cX3_putToServe 20 = .ok (.iconst 2, 1) := by decide +kernel
theorem dX3_putToServe_21 : decode cX3_putToServe 21 = .ok (.iconst 3, 1) := by decide +kernel
theorem dX3_putToServe_22 : decode cX3_putToServe 22 = .ok (.iastore, 1) := by decide +kernel
theorem dX3_putToServe_23 : decode cX3_putToServe 23 = .ok (.return_, 1) := by decide +kernel
theorem dX3_winner_0 : decode cX3_winner 0 = .ok (.aload_n 0, 1) := by decide +kernel
theorem dX3_winner_1 : decode cX3_winner 1 = .ok (.getfield 16, 3) := by decide +kernel
theorem dX3_winner_4 : decode cX3_winner 4 = .ok (.iconst 0, 1) := by decide +kernel
theorem dX3_winner_5 : decode cX3_winner 5 = .ok (.iaload, 1) := by decide +kernel
theorem dX3_winner_6 : decode cX3_winner 6 = .ok (.iconst 3, 1) := by decide +kernel
theorem dX3_winner_7 : decode cX3_winner 7 = .ok (.if_icmp .ne 7, 3) := by decide +kernel
theorem dX3_winner_10 : decode cX3_winner 10 = .ok (.iconst 0, 1) := by decide +kernel
theorem dX3_winner_11 : decode cX3_winner 11 = .ok (.goto 18, 3) := by decide +kernel
theorem dX3_winner_14 : decode cX3_winner 14 = .ok (.aload_n 0, 1) := by decide +kernel
theorem dX3_winner_15 : decode cX3_winner 15 = .ok (.getfield 16, 3) := by decide +kernel
theorem dX3_winner_18 : decode cX3_winner 18 = .ok (.iconst 1, 1) := by decide +kernel
theorem dX3_winner_19 : decode cX3_winner 19 = .ok (.iaload, 1) := by decide +kernel
theorem dX3_winner_20 : decode cX3_winner 20 = .ok (.iconst 3, 1) := by decide +kernel
theorem dX3_winner_21 : decode cX3_winner 21 = .ok (.if_icmp .ne 7, 3) := by decide +kernel
theorem dX3_winner_24 : decode cX3_winner 24 = .ok (.iconst 1, 1) := by decide +kernel
theorem dX3_winner_25 : decode cX3_winner 25 = .ok (.goto 4, 3) := by decide +kernel
theorem dX3_winner_28 : decode cX3_winner 28 = .ok (.iconst (-1), 1) := by decide +kernel
theorem dX3_winner_29 : decode cX3_winner 29 = .ok (.ireturn, 1) := by decide +kernel
theorem dX3_keepStroke_0 : decode cX3_keepStroke 0 = .ok (.aload_n 0, 1) := by decide +kernel
theorem dX3_keepStroke_1 : decode cX3_keepStroke 1 = .ok (.getfield 29, 3) := by decide +kernel
theorem dX3_keepStroke_4 : decode cX3_keepStroke 4 = .ok (.iconst 0, 1) := by decide +kernel
theorem dX3_keepStroke_5 : decode cX3_keepStroke 5 = .ok (.aload_n 0, 1) := by decide +kernel
theorem dX3_keepStroke_6 : decode cX3_keepStroke 6 = .ok (.getfield 9, 3) := by decide +kernel
theorem dX3_keepStroke_9 : decode cX3_keepStroke 9 = .ok (.iconst 0, 1) := by decide +kernel
theorem dX3_keepStroke_10 : decode cX3_keepStroke 10 = .ok (.bipush 9, 2) := by decide +kernel
theorem dX3_keepStroke_12 : decode cX3_keepStroke 12 = .ok (.invokestatic 65, 3) := by decide +kernel
theorem dX3_keepStroke_15 : decode cX3_keepStroke 15 = .ok (.aload_n 0, 1) := by decide +kernel
theorem dX3_keepStroke_16 : decode cX3_keepStroke 16 = .ok (.getfield 22, 3) := by decide +kernel
theorem dX3_keepStroke_19 : decode cX3_keepStroke 19 = .ok (.iload_n 1, 1) := by decide +kernel
theorem dX3_keepStroke_20 : decode cX3_keepStroke 20 = .ok (.dup2, 1) := by decide +kernel
theorem dX3_keepStroke_21 : decode cX3_keepStroke 21 = .ok (.iaload, 1) := by decide +kernel
theorem dX3_keepStroke_22 : decode cX3_keepStroke 22 = .ok (.iconst 1, 1) := by decide +kernel
theorem dX3_keepStroke_23 : decode cX3_keepStroke 23 = .ok (.iadd, 1) := by decide +kernel
theorem dX3_keepStroke_24 : decode cX3_keepStroke 24 = .ok (.iastore, 1) := by decide +kernel
theorem dX3_keepStroke_25 : decode cX3_keepStroke 25 = .ok (.aload_n 0, 1) := by decide +kernel
theorem dX3_keepStroke_26 : decode cX3_keepStroke 26 = .ok (.dup, 1) := by decide +kernel
theorem dX3_keepStroke_27 : decode cX3_keepStroke 27 = .ok (.getfield 85, 3) := by decide +kernel
theorem dX3_keepStroke_30 : decode cX3_keepStroke 30 = .ok (.iconst 1, 1) := by decide +kernel
theorem dX3_keepStroke_31 : decode cX3_keepStroke 31 = .ok (.iadd, 1) := by decide +kernel
theorem dX3_keepStroke_32 : decode cX3_keepStroke 32 = .ok (.putfield 85, 3) := by decide +kernel
theorem dX3_keepStroke_35 : decode cX3_keepStroke 35 = .ok (.aload_n 0, 1) := by decide +kernel
theorem dX3_keepStroke_36 : decode cX3_keepStroke 36 = .ok (.iconst 1, 1) := by decide +kernel
theorem dX3_keepStroke_37 : decode cX3_keepStroke 37 = .ok (.iload_n 1, 1) := by decide +kernel
theorem dX3_keepStroke_38 : decode cX3_keepStroke 38 = .ok (.isub, 1) := by decide +kernel
theorem dX3_keepStroke_39 : decode cX3_keepStroke 39 = .ok (.putfield 88, 3) := by decide +kernel
theorem dX3_keepStroke_42 : decode cX3_keepStroke 42 = .ok (.return_, 1) := by decide +kernel
theorem dX3_winGame_0 : decode cX3_winGame 0 = .ok (.aload_n 0, 1) := by decide +kernel
theorem dX3_winGame_1 : decode cX3_winGame 1 = .ok (.getfield 16, 3) := by decide +kernel
theorem dX3_winGame_4 : decode cX3_winGame 4 = .ok (.iload_n 1, 1) := by decide +kernel
theorem dX3_winGame_5 : decode cX3_winGame 5 = .ok (.dup2, 1) := by decide +kernel
theorem dX3_winGame_6 : decode cX3_winGame 6 = .ok (.iaload, 1) := by decide +kernel
theorem dX3_winGame_7 : decode cX3_winGame 7 = .ok (.iconst 1, 1) := by decide +kernel
theorem dX3_winGame_8 : decode cX3_winGame 8 = .ok (.iadd, 1) := by decide +kernel
theorem dX3_winGame_9 : decode cX3_winGame 9 = .ok (.iastore, 1) := by decide +kernel
theorem dX3_winGame_10 : decode cX3_winGame 10 = .ok (.aload_n 0, 1) := by decide +kernel
theorem dX3_winGame_11 : decode cX3_winGame 11 = .ok (.dup, 1) := by decide +kernel
theorem dX3_winGame_12 : decode cX3_winGame 12 = .ok (.getfield 91, 3) := by decide +kernel
theorem dX3_winGame_15 : decode cX3_winGame 15 = .ok (.iconst 1, 1) := by decide +kernel
theorem dX3_winGame_16 : decode cX3_winGame 16 = .ok (.iadd, 1) := by decide +kernel
theorem dX3_winGame_17 : decode cX3_winGame 17 = .ok (.putfield 91, 3) := by decide +kernel
theorem dX3_winGame_20 : decode cX3_winGame 20 = .ok (.aload_n 0, 1) := by decide +kernel
theorem dX3_winGame_21 : decode cX3_winGame 21 = .ok (.getfield 13, 3) := by decide +kernel
theorem dX3_winGame_24 : decode cX3_winGame 24 = .ok (.iconst 0, 1) := by decide +kernel
theorem dX3_winGame_25 : decode cX3_winGame 25 = .ok (.iconst 0, 1) := by decide +kernel
theorem dX3_winGame_26 : decode cX3_winGame 26 = .ok (.iastore, 1) := by decide +kernel
theorem dX3_winGame_27 : decode cX3_winGame 27 = .ok (.aload_n 0, 1) := by decide +kernel
theorem dX3_winGame_28 : decode cX3_winGame 28 = .ok (.getfield 13, 3) := by decide +kernel
theorem dX3_winGame_31 : decode cX3_winGame 31 = .ok (.iconst 1, 1) := by decide +kernel
theorem dX3_winGame_32 : decode cX3_winGame 32 = .ok (.iconst 0, 1) := by decide +kernel
theorem dX3_winGame_33 : decode cX3_winGame 33 = .ok (.iastore, 1) := by decide +kernel
theorem dX3_winGame_34 : decode cX3_winGame 34 = .ok (.aload_n 0, 1) := by decide +kernel
theorem dX3_winGame_35 : decode cX3_winGame 35 = .ok (.bipush 12, 2) := by decide +kernel
theorem dX3_winGame_37 : decode cX3_winGame 37 = .ok (.putfield 25, 3) := by decide +kernel
theorem dX3_winGame_40 : decode cX3_winGame 40 = .ok (.aload_n 0, 1) := by decide +kernel
theorem dX3_winGame_41 : decode cX3_winGame 41 = .ok (.iconst 0, 1) := by decide +kernel
theorem dX3_winGame_42 : decode cX3_winGame 42 = .ok (.putfield 94, 3) := by decide +kernel
theorem dX3_winGame_45 : decode cX3_winGame 45 = .ok (.aload_n 0, 1) := by decide +kernel
theorem dX3_winGame_46 : decode cX3_winGame 46 = .ok (.iload_n 1, 1) := by decide +kernel
theorem dX3_winGame_47 : decode cX3_winGame 47 = .ok (.putfield 98, 3) := by decide +kernel
theorem dX3_winGame_50 : decode cX3_winGame 50 = .ok (.return_, 1) := by decide +kernel
theorem dX3_win_0 : decode cX3_win 0 = .ok (.aload_n 0, 1) := by decide +kernel
theorem dX3_win_1 : decode cX3_win 1 = .ok (.iconst 0, 1) := by decide +kernel
theorem dX3_win_2 : decode cX3_win 2 = .ok (.putfield 101, 3) := by decide +kernel
theorem dX3_win_5 : decode cX3_win 5 = .ok (.aload_n 0, 1) := by decide +kernel
theorem dX3_win_6 : decode cX3_win 6 = .ok (.getfield 19, 3) := by decide +kernel
theorem dX3_win_9 : decode cX3_win 9 = .ok (.iload_n 1, 1) := by decide +kernel
theorem dX3_win_10 : decode cX3_win 10 = .ok (.dup2, 1) := by decide +kernel
theorem dX3_win_11 : decode cX3_win 11 = .ok (.iaload, 1) := by decide +kernel
theorem dX3_win_12 : decode cX3_win 12 = .ok (.iconst 1, 1) := by decide +kernel
theorem dX3_win_13 : decode cX3_win 13 = .ok (.iadd, 1) := by decide +kernel
theorem dX3_win_14 : decode cX3_win 14 = .ok (.iastore, 1) := by decide +kernel
theorem dX3_win_15 : decode cX3_win 15 = .ok (.aload_n 0, 1) := by decide +kernel
theorem dX3_win_16 : decode cX3_win 16 = .ok (.dup, 1) := by decide +kernel
theorem dX3_win_17 : decode cX3_win 17 = .ok (.getfield 104, 3) := by decide +kernel
theorem dX3_win_20 : decode cX3_win 20 = .ok (.iconst 1, 1) := by decide +kernel
theorem dX3_win_21 : decode cX3_win 21 = .ok (.iadd, 1) := by decide +kernel
theorem dX3_win_22 : decode cX3_win 22 = .ok (.putfield 104, 3) := by decide +kernel
theorem dX3_win_25 : decode cX3_win 25 = .ok (.aload_n 0, 1) := by decide +kernel
theorem dX3_win_26 : decode cX3_win 26 = .ok (.dup, 1) := by decide +kernel
theorem dX3_win_27 : decode cX3_win 27 = .ok (.getfield 107, 3) := by decide +kernel
theorem dX3_win_30 : decode cX3_win 30 = .ok (.aload_n 0, 1) := by decide +kernel
theorem dX3_win_31 : decode cX3_win 31 = .ok (.getfield 85, 3) := by decide +kernel
theorem dX3_win_34 : decode cX3_win 34 = .ok (.iadd, 1) := by decide +kernel
theorem dX3_win_35 : decode cX3_win 35 = .ok (.putfield 107, 3) := by decide +kernel
theorem dX3_win_38 : decode cX3_win 38 = .ok (.iload_n 1, 1) := by decide +kernel
theorem dX3_win_39 : decode cX3_win 39 = .ok (.aload_n 0, 1) := by decide +kernel
theorem dX3_win_40 : decode cX3_win 40 = .ok (.getfield 98, 3) := by decide +kernel
theorem dX3_win_43 : decode cX3_win 43 = .ok (.if_icmp .ne 16, 3) := by decide +kernel
theorem dX3_win_46 : decode cX3_win 46 = .ok (.aload_n 0, 1) := by decide +kernel
theorem dX3_win_47 : decode cX3_win 47 = .ok (.getfield 13, 3) := by decide +kernel
theorem dX3_win_50 : decode cX3_win 50 = .ok (.iload_n 1, 1) := by decide +kernel
theorem dX3_win_51 : decode cX3_win 51 = .ok (.dup2, 1) := by decide +kernel
theorem dX3_win_52 : decode cX3_win 52 = .ok (.iaload, 1) := by decide +kernel
theorem dX3_win_53 : decode cX3_win 53 = .ok (.iconst 1, 1) := by decide +kernel
theorem dX3_win_54 : decode cX3_win 54 = .ok (.iadd, 1) := by decide +kernel
theorem dX3_win_55 : decode cX3_win 55 = .ok (.iastore, 1) := by decide +kernel
theorem dX3_win_56 : decode cX3_win 56 = .ok (.goto 8, 3) := by decide +kernel
theorem dX3_win_59 : decode cX3_win 59 = .ok (.aload_n 0, 1) := by decide +kernel
theorem dX3_win_60 : decode cX3_win 60 = .ok (.iload_n 1, 1) := by decide +kernel
theorem dX3_win_61 : decode cX3_win 61 = .ok (.putfield 98, 3) := by decide +kernel
theorem dX3_win_64 : decode cX3_win 64 = .ok (.aload_n 0, 1) := by decide +kernel
theorem dX3_win_65 : decode cX3_win 65 = .ok (.getfield 13, 3) := by decide +kernel
theorem dX3_win_68 : decode cX3_win 68 = .ok (.iload_n 1, 1) := by decide +kernel
theorem dX3_win_69 : decode cX3_win 69 = .ok (.iaload, 1) := by decide +kernel
theorem dX3_win_70 : decode cX3_win 70 = .ok (.aload_n 0, 1) := by decide +kernel
theorem dX3_win_71 : decode cX3_win 71 = .ok (.getfield 25, 3) := by decide +kernel
theorem dX3_win_74 : decode cX3_win 74 = .ok (.if_icmp .lt 8, 3) := by decide +kernel
theorem dX3_win_77 : decode cX3_win 77 = .ok (.aload_n 0, 1) := by decide +kernel
theorem dX3_win_78 : decode cX3_win 78 = .ok (.iload_n 1, 1) := by decide +kernel
theorem dX3_win_79 : decode cX3_win 79 = .ok (.invokevirtual 110, 3) := by decide +kernel
theorem dX3_win_82 : decode cX3_win 82 = .ok (.iconst 2, 1) := by decide +kernel
theorem dX3_win_83 : decode cX3_win 83 = .ok (.iload_n 1, 1) := by decide +kernel
theorem dX3_win_84 : decode cX3_win 84 = .ok (.iadd, 1) := by decide +kernel
theorem dX3_win_85 : decode cX3_win 85 = .ok (.ireturn, 1) := by decide +kernel
theorem dX3_endByLet_0 : decode cX3_endByLet 0 = .ok (.aload_n 0, 1) := by decide +kernel
theorem dX3_endByLet_1 : decode cX3_endByLet 1 = .ok (.iconst 0, 1) := by decide +kernel
theorem dX3_endByLet_2 : decode cX3_endByLet 2 = .ok (.putfield 101, 3) := by decide +kernel
theorem dX3_endByLet_5 : decode cX3_endByLet 5 = .ok (.aload_n 0, 1) := by decide +kernel
theorem dX3_endByLet_6 : decode cX3_endByLet 6 = .ok (.dup, 1) := by decide +kernel
theorem dX3_endByLet_7 : decode cX3_endByLet 7 = .ok (.getfield 114, 3) := by decide +kernel
theorem dX3_endByLet_10 : decode cX3_endByLet 10 = .ok (.iconst 1, 1) := by decide +kernel
theorem dX3_endByLet_11 : decode cX3_endByLet 11 = .ok (.iadd, 1) := by decide +kernel
theorem dX3_endByLet_12 : decode cX3_endByLet 12 = .ok (.putfield 114, 3) := by decide +kernel
theorem dX3_endByLet_15 : decode cX3_endByLet 15 = .ok (.return_, 1) := by decide +kernel
theorem dX3_canSet_0 : decode cX3_canSet 0 = .ok (.aload_n 0, 1) := by decide +kernel
theorem dX3_canSet_1 : decode cX3_canSet 1 = .ok (.getfield 101, 3) := by decide +kernel
theorem dX3_canSet_4 : decode cX3_canSet 4 = .ok (.ifCond .ne 53, 3) := by decide +kernel
theorem dX3_canSet_7 : decode cX3_canSet 7 = .ok (.aload_n 0, 1) := by decide +kernel
theorem dX3_canSet_8 : decode cX3_canSet 8 = .ok (.getfield 94, 3) := by decide +kernel
theorem dX3_canSet_11 : decode cX3_canSet 11 = .ok (.ifCond .ne 46, 3) := by decide +kernel
theorem dX3_canSet_14 : decode cX3_canSet 14 = .ok (.aload_n 0, 1) := by decide +kernel
theorem dX3_canSet_15 : decode cX3_canSet 15 = .ok (.getfield 13, 3) := by decide +kernel
theorem dX3_canSet_18 : decode cX3_canSet 18 = .ok (.iconst 0, 1) := by decide +kernel
theorem dX3_canSet_19 : decode cX3_canSet 19 = .ok (.iaload, 1) := by decide +kernel
theorem dX3_canSet_20 : decode cX3_canSet 20 = .ok (.aload_n 0, 1) := by decide +kernel
theorem dX3_canSet_21 : decode cX3_canSet 21 = .ok (.getfield 13, 3) := by decide +kernel
theorem dX3_canSet_24 : decode cX3_canSet 24 = .ok (.iconst 1, 1) := by decide +kernel
theorem dX3_canSet_25 : decode cX3_canSet 25 = .ok (.iaload, 1) := by decide +kernel
theorem dX3_canSet_26 : decode cX3_canSet 26 = .ok (.if_icmp .ne 31, 3) := by decide +kernel
theorem dX3_canSet_29 : decode cX3_canSet 29 = .ok (.aload_n 0, 1) := by decide +kernel
theorem dX3_canSet_30 : decode cX3_canSet 30 = .ok (.getfield 13, 3) := by decide +kernel
theorem dX3_canSet_33 : decode cX3_canSet 33 = .ok (.iconst 0, 1) := by decide +kernel
theorem dX3_canSet_34 : decode cX3_canSet 34 = .ok (.iaload, 1) := by decide +kernel
theorem dX3_canSet_35 : decode cX3_canSet 35 = .ok (.bipush 10, 2) := by decide +kernel
theorem dX3_canSet_37 : decode cX3_canSet 37 = .ok (.bipush 11, 2) := by decide +kernel
theorem dX3_canSet_39 : decode cX3_canSet 39 = .ok (.invokestatic 35, 3) := by decide +kernel
theorem dX3_canSet_42 : decode cX3_canSet 42 = .ok (.ifCond .eq 15, 3) := by decide +kernel
theorem dX3_canSet_45 : decode cX3_canSet 45 = .ok (.aload_n 0, 1) := by decide +kernel
theorem dX3_canSet_46 : decode cX3_canSet 46 = .ok (.invokevirtual 117, 3) := by decide +kernel
theorem dX3_canSet_49 : decode cX3_canSet 49 = .ok (.iconst (-1), 1) := by decide +kernel
theorem dX3_canSet_50 : decode cX3_canSet 50 = .ok (.if_icmp .ne 7, 3) := by decide +kernel
theorem dX3_canSet_53 : decode cX3_canSet 53 = .ok (.iconst 1, 1) := by decide +kernel
theorem dX3_canSet_54 : decode cX3_canSet 54 = .ok (.goto 4, 3) := by decide +kernel
theorem dX3_canSet_57 : decode cX3_canSet 57 = .ok (.iconst 0, 1) := by decide +kernel
theorem dX3_canSet_58 : decode cX3_canSet 58 = .ok (.ireturn, 1) := by decide +kernel
theorem dX3_serve_0 : decode cX3_serve 0 = .ok (.aload_n 0, 1) := by decide +kernel
theorem dX3_serve_1 : decode cX3_serve 1 = .ok (.iconst 0, 1) := by decide +kernel
theorem dX3_serve_2 : decode cX3_serve 2 = .ok (.putfield 32, 3) := by decide +kernel
theorem dX3_serve_5 : decode cX3_serve 5 = .ok (.iload_n 1, 1) := by decide +kernel
theorem dX3_serve_6 : decode cX3_serve 6 = .ok (.iload_n 2, 1) := by decide +kernel
theorem dX3_serve_7 : decode cX3_serve 7 = .ok (.iload_n 3, 1) := by decide +kernel
theorem dX3_serve_8 : decode cX3_serve 8 = .ok (.invokestatic 120, 3) := by decide +kernel
theorem dX3_serve_11 : decode cX3_serve 11 = .ok (.ifCond .ne 9, 3) := by decide +kernel
theorem dX3_serve_14 : decode cX3_serve 14 = .ok (.aload_n 0, 1) := by decide +kernel
theorem dX3_serve_15 : decode cX3_serve 15 = .ok (.iconst 1, 1) := by decide +kernel
theorem dX3_serve_16 : decode cX3_serve 16 = .ok (.invokevirtual 123, 3) := by decide +kernel
theorem dX3_serve_19 : decode cX3_serve 19 = .ok (.ireturn, 1) := by decide +kernel
theorem dX3_serve_20 : decode cX3_serve 20 = .ok (.aload_n 0, 1) := by decide +kernel
theorem dX3_serve_21 : decode cX3_serve 21 = .ok (.getfield 101, 3) := by decide +kernel
theorem dX3_serve_24 : decode cX3_serve 24 = .ok (.ifCond .ne 11, 3) := by decide +kernel
theorem dX3_serve_27 : decode cX3_serve 27 = .ok (.aload_n 0, 1) := by decide +kernel
theorem dX3_serve_28 : decode cX3_serve 28 = .ok (.invokevirtual 117, 3) := by decide +kernel
theorem dX3_serve_31 : decode cX3_serve 31 = .ok (.iconst (-1), 1) := by decide +kernel
theorem dX3_serve_32 : decode cX3_serve 32 = .ok (.if_icmp .eq 9, 3) := by decide +kernel
theorem dX3_serve_35 : decode cX3_serve 35 = .ok (.aload_n 0, 1) := by decide +kernel
theorem dX3_serve_36 : decode cX3_serve 36 = .ok (.iconst 2, 1) := by decide +kernel
theorem dX3_serve_37 : decode cX3_serve 37 = .ok (.invokevirtual 123, 3) := by decide +kernel
theorem dX3_serve_40 : decode cX3_serve 40 = .ok (.ireturn, 1) := by decide +kernel
theorem dX3_serve_41 : decode cX3_serve 41 = .ok (.aload_n 0, 1) := by decide +kernel
theorem dX3_serve_42 : decode cX3_serve 42 = .ok (.invokevirtual 126, 3) := by decide +kernel
theorem dX3_serve_45 : decode cX3_serve 45 = .ok (.aload_n 0, 1) := by decide +kernel
theorem dX3_serve_46 : decode cX3_serve 46 = .ok (.iload_n 1, 1) := by decide +kernel
theorem dX3_serve_47 : decode cX3_serve 47 = .ok (.iload_n 2, 1) := by decide +kernel
theorem dX3_serve_48 : decode cX3_serve 48 = .ok (.iload_n 3, 1) := by decide +kernel
theorem dX3_serve_49 : decode cX3_serve 49 = .ok (.invokevirtual 129, 3) := by decide +kernel
theorem dX3_serve_52 : decode cX3_serve 52 = .ok (.aload_n 0, 1) := by decide +kernel
theorem dX3_serve_53 : decode cX3_serve 53 = .ok (.iconst 1, 1) := by decide +kernel
theorem dX3_serve_54 : decode cX3_serve 54 = .ok (.putfield 101, 3) := by decide +kernel
theorem dX3_serve_57 : decode cX3_serve 57 = .ok (.aload_n 0, 1) := by decide +kernel
theorem dX3_serve_58 : decode cX3_serve 58 = .ok (.iconst 0, 1) := by decide +kernel
theorem dX3_serve_59 : decode cX3_serve 59 = .ok (.putfield 85, 3) := by decide +kernel
theorem dX3_serve_62 : decode cX3_serve 62 = .ok (.aload_n 0, 1) := by decide +kernel
theorem dX3_serve_63 : decode cX3_serve 63 = .ok (.aload_n 0, 1) := by decide +kernel
theorem dX3_serve_64 : decode cX3_serve 64 = .ok (.getfield 98, 3) := by decide +kernel
theorem dX3_serve_67 : decode cX3_serve 67 = .ok (.invokevirtual 133, 3) := by decide +kernel
theorem dX3_serve_70 : decode cX3_serve 70 = .ok (.aload_n 0, 1) := by decide +kernel
theorem dX3_serve_71 : decode cX3_serve 71 = .ok (.getfield 98, 3) := by decide +kernel
theorem dX3_serve_74 : decode cX3_serve 74 = .ok (.ireturn, 1) := by decide +kernel
theorem dX3_strike_0 : decode cX3_strike 0 = .ok (.aload_n 0, 1) := by decide +kernel
theorem dX3_strike_1 : decode cX3_strike 1 = .ok (.iconst 0, 1) := by decide +kernel
theorem dX3_strike_2 : decode cX3_strike 2 = .ok (.putfield 32, 3) := by decide +kernel
theorem dX3_strike_5 : decode cX3_strike 5 = .ok (.iload_n 1, 1) := by decide +kernel
theorem dX3_strike_6 : decode cX3_strike 6 = .ok (.iconst 1, 1) := by decide +kernel
theorem dX3_strike_7 : decode cX3_strike 7 = .ok (.bipush 60, 2) := by decide +kernel
theorem dX3_strike_9 : decode cX3_strike 9 = .ok (.invokestatic 35, 3) := by decide +kernel
theorem dX3_strike_12 : decode cX3_strike 12 = .ok (.ifCond .eq 13, 3) := by decide +kernel
theorem dX3_strike_15 : decode cX3_strike 15 = .ok (.iload_n 2, 1) := by decide +kernel
theorem dX3_strike_16 : decode cX3_strike 16 = .ok (.iload_n 3, 1) := by decide +kernel
theorem dX3_strike_17 : decode cX3_strike 17 = .ok (.iload 4, 2) := by decide +kernel
theorem dX3_strike_19 : decode cX3_strike 19 = .ok (.invokestatic 120, 3) := by decide +kernel
theorem dX3_strike_22 : decode cX3_strike 22 = .ok (.ifCond .ne 9, 3) := by decide +kernel
theorem dX3_strike_25 : decode cX3_strike 25 = .ok (.aload_n 0, 1) := by decide +kernel
theorem dX3_strike_26 : decode cX3_strike 26 = .ok (.iconst 1, 1) := by decide +kernel
theorem dX3_strike_27 : decode cX3_strike 27 = .ok (.invokevirtual 123, 3) := by decide +kernel
theorem dX3_strike_30 : decode cX3_strike 30 = .ok (.ireturn, 1) := by decide +kernel
theorem dX3_strike_31 : decode cX3_strike 31 = .ok (.aload_n 0, 1) := by decide +kernel
theorem dX3_strike_32 : decode cX3_strike 32 = .ok (.getfield 101, 3) := by decide +kernel
theorem dX3_strike_35 : decode cX3_strike 35 = .ok (.ifCond .ne 9, 3) := by decide +kernel
theorem dX3_strike_38 : decode cX3_strike 38 = .ok (.aload_n 0, 1) := by decide +kernel
theorem dX3_strike_39 : decode cX3_strike 39 = .ok (.iconst 2, 1) := by decide +kernel
theorem dX3_strike_40 : decode cX3_strike 40 = .ok (.invokevirtual 123, 3) := by decide +kernel
theorem dX3_strike_43 : decode cX3_strike 43 = .ok (.ireturn, 1) := by decide +kernel
theorem dX3_strike_44 : decode cX3_strike 44 = .ok (.aload_n 0, 1) := by decide +kernel
theorem dX3_strike_45 : decode cX3_strike 45 = .ok (.iload_n 1, 1) := by decide +kernel
theorem dX3_strike_46 : decode cX3_strike 46 = .ok (.invokevirtual 136, 3) := by decide +kernel
theorem dX3_strike_49 : decode cX3_strike 49 = .ok (.istore 5, 2) := by decide +kernel
theorem dX3_strike_51 : decode cX3_strike 51 = .ok (.iload 5, 2) := by decide +kernel
theorem dX3_strike_53 : decode cX3_strike 53 = .ok (.ifCond .le 27, 3) := by decide +kernel
theorem dX3_strike_56 : decode cX3_strike 56 = .ok (.aload_n 0, 1) := by decide +kernel
theorem dX3_strike_57 : decode cX3_strike 57 = .ok (.iload 5, 2) := by decide +kernel
theorem dX3_strike_59 : decode cX3_strike 59 = .ok (.iconst 3, 1) := by decide +kernel
theorem dX3_strike_60 : decode cX3_strike 60 = .ok (.if_icmp .ne 12, 3) := by decide +kernel
theorem dX3_strike_63 : decode cX3_strike 63 = .ok (.iconst 1, 1) := by decide +kernel
theorem dX3_strike_64 : decode cX3_strike 64 = .ok (.aload_n 0, 1) := by decide +kernel
theorem dX3_strike_65 : decode cX3_strike 65 = .ok (.getfield 88, 3) := by decide +kernel
theorem dX3_strike_68 : decode cX3_strike 68 = .ok (.isub, 1) := by decide +kernel
theorem dX3_strike_69 : decode cX3_strike 69 = .ok (.goto 7, 3) := by decide +kernel
theorem dX3_strike_72 : decode cX3_strike 72 = .ok (.aload_n 0, 1) := by decide +kernel
theorem dX3_strike_73 : decode cX3_strike 73 = .ok (.getfield 88, 3) := by decide +kernel
theorem dX3_strike_76 : decode cX3_strike 76 = .ok (.invokevirtual 139, 3) := by decide +kernel
theorem dX3_strike_79 : decode cX3_strike 79 = .ok (.ireturn, 1) := by decide +kernel
theorem dX3_strike_80 : decode cX3_strike 80 = .ok (.aload_n 0, 1) := by decide +kernel
theorem dX3_strike_81 : decode cX3_strike 81 = .ok (.getfield 29, 3) := by decide +kernel
theorem dX3_strike_84 : decode cX3_strike 84 = .ok (.bipush 6, 2) := by decide +kernel
theorem dX3_strike_86 : decode cX3_strike 86 = .ok (.iaload, 1) := by decide +kernel
theorem dX3_strike_87 : decode cX3_strike 87 = .ok (.ifCond .ne 9, 3) := by decide +kernel
theorem dX3_strike_90 : decode cX3_strike 90 = .ok (.aload_n 0, 1) := by decide +kernel
theorem dX3_strike_91 : decode cX3_strike 91 = .ok (.invokevirtual 142, 3) := by decide +kernel
theorem dX3_strike_94 : decode cX3_strike 94 = .ok (.iconst 1, 1) := by decide +kernel
theorem dX3_strike_95 : decode cX3_strike 95 = .ok (.ireturn, 1) := by decide +kernel
theorem dX3_strike_96 : decode cX3_strike 96 = .ok (.aload_n 0, 1) := by decide +kernel
theorem dX3_strike_97 : decode cX3_strike 97 = .ok (.iload_n 2, 1) := by decide +kernel
theorem dX3_strike_98 : decode cX3_strike 98 = .ok (.iload_n 3, 1) := by decide +kernel
theorem dX3_strike_99 : decode cX3_strike 99 = .ok (.iload 4, 2) := by decide +kernel
theorem dX3_strike_101 : decode cX3_strike 101 = .ok (.invokevirtual 129, 3) := by decide +kernel
theorem dX3_strike_104 : decode cX3_strike 104 = .ok (.aload_n 0, 1) := by decide +kernel
theorem dX3_strike_105 : decode cX3_strike 105 = .ok (.aload_n 0, 1) := by decide +kernel
theorem dX3_strike_106 : decode cX3_strike 106 = .ok (.getfield 88, 3) := by decide +kernel
theorem dX3_strike_109 : decode cX3_strike 109 = .ok (.invokevirtual 133, 3) := by decide +kernel
theorem dX3_strike_112 : decode cX3_strike 112 = .ok (.iconst 0, 1) := by decide +kernel
theorem dX3_strike_113 : decode cX3_strike 113 = .ok (.ireturn, 1) := by decide +kernel
theorem dX3_leave_0 : decode cX3_leave 0 = .ok (.aload_n 0, 1) := by decide +kernel
theorem dX3_leave_1 : decode cX3_leave 1 = .ok (.iconst 0, 1) := by decide +kernel
theorem dX3_leave_2 : decode cX3_leave 2 = .ok (.putfield 32, 3) := by decide +kernel
theorem dX3_leave_5 : decode cX3_leave 5 = .ok (.aload_n 0, 1) := by decide +kernel
theorem dX3_leave_6 : decode cX3_leave 6 = .ok (.getfield 101, 3) := by decide +kernel
theorem dX3_leave_9 : decode cX3_leave 9 = .ok (.ifCond .ne 9, 3) := by decide +kernel
theorem dX3_leave_12 : decode cX3_leave 12 = .ok (.aload_n 0, 1) := by decide +kernel
theorem dX3_leave_13 : decode cX3_leave 13 = .ok (.iconst 1, 1) := by decide +kernel
theorem dX3_leave_14 : decode cX3_leave 14 = .ok (.invokevirtual 123, 3) := by decide +kernel
theorem dX3_leave_17 : decode cX3_leave 17 = .ok (.ireturn, 1) := by decide +kernel
theorem dX3_leave_18 : decode cX3_leave 18 = .ok (.aload_n 0, 1) := by decide +kernel
theorem dX3_leave_19 : decode cX3_leave 19 = .ok (.aload_n 0, 1) := by decide +kernel
theorem dX3_leave_20 : decode cX3_leave 20 = .ok (.invokevirtual 145, 3) := by decide +kernel
theorem dX3_leave_23 : decode cX3_leave 23 = .ok (.iconst 3, 1) := by decide +kernel
theorem dX3_leave_24 : decode cX3_leave 24 = .ok (.if_icmp .ne 12, 3) := by decide +kernel
theorem dX3_leave_27 : decode cX3_leave 27 = .ok (.iconst 1, 1) := by decide +kernel
theorem dX3_leave_28 : decode cX3_leave 28 = .ok (.aload_n 0, 1) := by decide +kernel
theorem dX3_leave_29 : decode cX3_leave 29 = .ok (.getfield 88, 3) := by decide +kernel
theorem dX3_leave_32 : decode cX3_leave 32 = .ok (.isub, 1) := by decide +kernel
theorem dX3_leave_33 : decode cX3_leave 33 = .ok (.goto 7, 3) := by decide +kernel
theorem dX3_leave_36 : decode cX3_leave 36 = .ok (.aload_n 0, 1) := by decide +kernel
theorem dX3_leave_37 : decode cX3_leave 37 = .ok (.getfield 88, 3) := by decide +kernel
theorem dX3_leave_40 : decode cX3_leave 40 = .ok (.invokevirtual 139, 3) := by decide +kernel
theorem dX3_leave_43 : decode cX3_leave 43 = .ok (.ireturn, 1) := by decide +kernel
theorem dX3_let_0 : decode cX3_let 0 = .ok (.aload_n 0, 1) := by decide +kernel
theorem dX3_let_1 : decode cX3_let 1 = .ok (.iconst 0, 1) := by decide +kernel
theorem dX3_let_2 : decode cX3_let 2 = .ok (.putfield 32, 3) := by decide +kernel
theorem dX3_let_5 : decode cX3_let 5 = .ok (.aload_n 0, 1) := by decide +kernel
theorem dX3_let_6 : decode cX3_let 6 = .ok (.getfield 101, 3) := by decide +kernel
theorem dX3_let_9 : decode cX3_let 9 = .ok (.ifCond .ne 9, 3) := by decide +kernel
theorem dX3_let_12 : decode cX3_let 12 = .ok (.aload_n 0, 1) := by decide +kernel
theorem dX3_let_13 : decode cX3_let 13 = .ok (.iconst 1, 1) := by decide +kernel
theorem dX3_let_14 : decode cX3_let 14 = .ok (.invokevirtual 123, 3) := by decide +kernel
theorem dX3_let_17 : decode cX3_let 17 = .ok (.ireturn, 1) := by decide +kernel
theorem dX3_let_18 : decode cX3_let 18 = .ok (.aload_n 0, 1) := by decide +kernel
theorem dX3_let_19 : decode cX3_let 19 = .ok (.invokevirtual 142, 3) := by decide +kernel
theorem dX3_let_22 : decode cX3_let 22 = .ok (.aload_n 0, 1) := by decide +kernel
theorem dX3_let_23 : decode cX3_let 23 = .ok (.getfield 85, 3) := by decide +kernel
theorem dX3_let_26 : decode cX3_let 26 = .ok (.ireturn, 1) := by decide +kernel
theorem dX3_set_0 : decode cX3_set 0 = .ok (.aload_n 0, 1) := by decide +kernel
theorem dX3_set_1 : decode cX3_set 1 = .ok (.iconst 0, 1) := by decide +kernel
theorem dX3_set_2 : decode cX3_set 2 = .ok (.putfield 32, 3) := by decide +kernel
theorem dX3_set_5 : decode cX3_set 5 = .ok (.iload_n 1, 1) := by decide +kernel
theorem dX3_set_6 : decode cX3_set 6 = .ok (.iconst 3, 1) := by decide +kernel
theorem dX3_set_7 : decode cX3_set 7 = .ok (.if_icmp .eq 14, 3) := by decide +kernel
theorem dX3_set_10 : decode cX3_set 10 = .ok (.iload_n 1, 1) := by decide +kernel
theorem dX3_set_11 : decode cX3_set 11 = .ok (.iconst 5, 1) := by decide +kernel
theorem dX3_set_12 : decode cX3_set 12 = .ok (.if_icmp .eq 9, 3) := by decide +kernel
theorem dX3_set_15 : decode cX3_set 15 = .ok (.aload_n 0, 1) := by decide +kernel
theorem dX3_set_16 : decode cX3_set 16 = .ok (.iconst 1, 1) := by decide +kernel
theorem dX3_set_17 : decode cX3_set 17 = .ok (.invokevirtual 123, 3) := by decide +kernel
theorem dX3_set_20 : decode cX3_set 20 = .ok (.ireturn, 1) := by decide +kernel
theorem dX3_set_21 : decode cX3_set 21 = .ok (.aload_n 0, 1) := by decide +kernel
theorem dX3_set_22 : decode cX3_set 22 = .ok (.invokevirtual 148, 3) := by decide +kernel
theorem dX3_set_25 : decode cX3_set 25 = .ok (.ifCond .ne 9, 3) := by decide +kernel
theorem dX3_set_28 : decode cX3_set 28 = .ok (.aload_n 0, 1) := by decide +kernel
theorem dX3_set_29 : decode cX3_set 29 = .ok (.iconst 2, 1) := by decide +kernel
theorem dX3_set_30 : decode cX3_set 30 = .ok (.invokevirtual 123, 3) := by decide +kernel
theorem dX3_set_33 : decode cX3_set 33 = .ok (.ireturn, 1) := by decide +kernel
theorem dX3_set_34 : decode cX3_set 34 = .ok (.aload_n 0, 1) := by decide +kernel
theorem dX3_set_35 : decode cX3_set 35 = .ok (.iconst 1, 1) := by decide +kernel
theorem dX3_set_36 : decode cX3_set 36 = .ok (.putfield 94, 3) := by decide +kernel
theorem dX3_set_39 : decode cX3_set 39 = .ok (.aload_n 0, 1) := by decide +kernel
theorem dX3_set_40 : decode cX3_set 40 = .ok (.aload_n 0, 1) := by decide +kernel
theorem dX3_set_41 : decode cX3_set 41 = .ok (.getfield 13, 3) := by decide +kernel
theorem dX3_set_44 : decode cX3_set 44 = .ok (.iconst 0, 1) := by decide +kernel
theorem dX3_set_45 : decode cX3_set 45 = .ok (.iaload, 1) := by decide +kernel
theorem dX3_set_46 : decode cX3_set 46 = .ok (.iload_n 1, 1) := by decide +kernel
theorem dX3_set_47 : decode cX3_set 47 = .ok (.iadd, 1) := by decide +kernel
theorem dX3_set_48 : decode cX3_set 48 = .ok (.putfield 25, 3) := by decide +kernel
theorem dX3_set_51 : decode cX3_set 51 = .ok (.aload_n 0, 1) := by decide +kernel
theorem dX3_set_52 : decode cX3_set 52 = .ok (.getfield 25, 3) := by decide +kernel
theorem dX3_set_55 : decode cX3_set 55 = .ok (.ireturn, 1) := by decide +kernel
theorem dX3_match_0 : decode cX3_match 0 = .ok (.aload_n 0, 1) := by decide +kernel
theorem dX3_match_1 : decode cX3_match 1 = .ok (.iconst 0, 1) := by decide +kernel
theorem dX3_match_2 : decode cX3_match 2 = .ok (.putfield 32, 3) := by decide +kernel
theorem dX3_match_5 : decode cX3_match 5 = .ok (.iload_n 1, 1) := by decide +kernel
theorem dX3_match_6 : decode cX3_match 6 = .ok (.iconst 0, 1) := by decide +kernel
theorem dX3_match_7 : decode cX3_match 7 = .ok (.iconst 1, 1) := by decide +kernel
theorem dX3_match_8 : decode cX3_match 8 = .ok (.invokestatic 35, 3) := by decide +kernel
theorem dX3_match_11 : decode cX3_match 11 = .ok (.ifCond .ne 9, 3) := by decide +kernel
theorem dX3_match_14 : decode cX3_match 14 = .ok (.aload_n 0, 1) := by decide +kernel
theorem dX3_match_15 : decode cX3_match 15 = .ok (.iconst 1, 1) := by decide +kernel
theorem dX3_match_16 : decode cX3_match 16 = .ok (.invokevirtual 123, 3) := by decide +kernel
theorem dX3_match_19 : decode cX3_match 19 = .ok (.ireturn, 1) := by decide +kernel
theorem dX3_match_20 : decode cX3_match 20 = .ok (.aload_n 0, 1) := by decide +kernel
theorem dX3_match_21 : decode cX3_match 21 = .ok (.getfield 16, 3) := by decide +kernel
theorem dX3_match_24 : decode cX3_match 24 = .ok (.iconst 0, 1) := by decide +kernel
theorem dX3_match_25 : decode cX3_match 25 = .ok (.iaload, 1) := by decide +kernel
theorem dX3_match_26 : decode cX3_match 26 = .ok (.aload_n 0, 1) := by decide +kernel
theorem dX3_match_27 : decode cX3_match 27 = .ok (.getfield 16, 3) := by decide +kernel
theorem dX3_match_30 : decode cX3_match 30 = .ok (.iconst 1, 1) := by decide +kernel
theorem dX3_match_31 : decode cX3_match 31 = .ok (.iaload, 1) := by decide +kernel
theorem dX3_match_32 : decode cX3_match 32 = .ok (.iadd, 1) := by decide +kernel
theorem dX3_match_33 : decode cX3_match 33 = .ok (.istore_n 2, 1) := by decide +kernel
theorem dX3_match_34 : decode cX3_match 34 = .ok (.iconst 0, 1) := by decide +kernel
theorem dX3_match_35 : decode cX3_match 35 = .ok (.istore_n 3, 1) := by decide +kernel
theorem dX3_match_36 : decode cX3_match 36 = .ok (.iload_n 3, 1) := by decide +kernel
theorem dX3_match_37 : decode cX3_match 37 = .ok (.iconst 2, 1) := by decide +kernel
theorem dX3_match_38 : decode cX3_match 38 = .ok (.if_icmp .ge 37, 3) := by decide +kernel
theorem dX3_match_41 : decode cX3_match 41 = .ok (.aload_n 0, 1) := by decide +kernel
theorem dX3_match_42 : decode cX3_match 42 = .ok (.getfield 13, 3) := by decide +kernel
theorem dX3_match_45 : decode cX3_match 45 = .ok (.iload_n 3, 1) := by decide +kernel
theorem dX3_match_46 : decode cX3_match 46 = .ok (.iconst 0, 1) := by decide +kernel
theorem dX3_match_47 : decode cX3_match 47 = .ok (.iastore, 1) := by decide +kernel
theorem dX3_match_48 : decode cX3_match 48 = .ok (.aload_n 0, 1) := by decide +kernel
theorem dX3_match_49 : decode cX3_match 49 = .ok (.getfield 16, 3) := by decide +kernel
theorem dX3_match_52 : decode cX3_match 52 = .ok (.iload_n 3, 1) := by decide +kernel
theorem dX3_match_53 : decode cX3_match 53 = .ok (.iconst 0, 1) := by decide +kernel
theorem dX3_match_54 : decode cX3_match 54 = .ok (.iastore, 1) := by decide +kernel
theorem dX3_match_55 : decode cX3_match 55 = .ok (.aload_n 0, 1) := by decide +kernel
theorem dX3_match_56 : decode cX3_match 56 = .ok (.getfield 19, 3) := by decide +kernel
theorem dX3_match_59 : decode cX3_match 59 = .ok (.iload_n 3, 1) := by decide +kernel
theorem dX3_match_60 : decode cX3_match 60 = .ok (.iconst 0, 1) := by decide +kernel
theorem dX3_match_61 : decode cX3_match 61 = .ok (.iastore, 1) := by decide +kernel
theorem dX3_match_62 : decode cX3_match 62 = .ok (.aload_n 0, 1) := by decide +kernel
theorem dX3_match_63 : decode cX3_match 63 = .ok (.getfield 22, 3) := by decide +kernel
theorem dX3_match_66 : decode cX3_match 66 = .ok (.iload_n 3, 1) := by decide +kernel
theorem dX3_match_67 : decode cX3_match 67 = .ok (.iconst 0, 1) := by decide +kernel
theorem dX3_match_68 : decode cX3_match 68 = .ok (.iastore, 1) := by decide +kernel
theorem dX3_match_69 : decode cX3_match 69 = .ok (.iinc 3 1, 3) := by decide +kernel
theorem dX3_match_72 : decode cX3_match 72 = .ok (.goto (-36), 3) := by decide +kernel
theorem dX3_match_75 : decode cX3_match 75 = .ok (.aload_n 0, 1) := by decide +kernel
theorem dX3_match_76 : decode cX3_match 76 = .ok (.bipush 12, 2) := by decide +kernel
theorem dX3_match_78 : decode cX3_match 78 = .ok (.putfield 25, 3) := by decide +kernel
theorem dX3_match_81 : decode cX3_match 81 = .ok (.aload_n 0, 1) := by decide +kernel
theorem dX3_match_82 : decode cX3_match 82 = .ok (.iconst 0, 1) := by decide +kernel
theorem dX3_match_83 : decode cX3_match 83 = .ok (.putfield 94, 3) := by decide +kernel
theorem dX3_match_86 : decode cX3_match 86 = .ok (.aload_n 0, 1) := by decide +kernel
theorem dX3_match_87 : decode cX3_match 87 = .ok (.iconst 0, 1) := by decide +kernel
theorem dX3_match_88 : decode cX3_match 88 = .ok (.putfield 101, 3) := by decide +kernel
theorem dX3_match_91 : decode cX3_match 91 = .ok (.aload_n 0, 1) := by decide +kernel
theorem dX3_match_92 : decode cX3_match 92 = .ok (.iload_n 1, 1) := by decide +kernel
theorem dX3_match_93 : decode cX3_match 93 = .ok (.putfield 98, 3) := by decide +kernel
theorem dX3_match_96 : decode cX3_match 96 = .ok (.iload_n 2, 1) := by decide +kernel
theorem dX3_match_97 : decode cX3_match 97 = .ok (.ireturn, 1) := by decide +kernel
theorem dX3_ballTold_0 : decode cX3_ballTold 0 = .ok (.aload_n 0, 1) := by decide +kernel
theorem dX3_ballTold_1 : decode cX3_ballTold 1 = .ok (.getfield 101, 3) := by decide +kernel
theorem dX3_ballTold_4 : decode cX3_ballTold 4 = .ok (.ifCond .eq 12, 3) := by decide +kernel
theorem dX3_ballTold_7 : decode cX3_ballTold 7 = .ok (.aload_n 0, 1) := by decide +kernel
theorem dX3_ballTold_8 : decode cX3_ballTold 8 = .ok (.getfield 9, 3) := by decide +kernel
theorem dX3_ballTold_11 : decode cX3_ballTold 11 = .ok (.iload_n 1, 1) := by decide +kernel
theorem dX3_ballTold_12 : decode cX3_ballTold 12 = .ok (.iaload, 1) := by decide +kernel
theorem dX3_ballTold_13 : decode cX3_ballTold 13 = .ok (.goto 4, 3) := by decide +kernel
theorem dX3_ballTold_16 : decode cX3_ballTold 16 = .ok (.iconst 0, 1) := by decide +kernel
theorem dX3_ballTold_17 : decode cX3_ballTold 17 = .ok (.ireturn, 1) := by decide +kernel
theorem dX3_ball_0 : decode cX3_ball 0 = .ok (.aload_n 0, 1) := by decide +kernel
theorem dX3_ball_1 : decode cX3_ball 1 = .ok (.iconst 0, 1) := by decide +kernel
theorem dX3_ball_2 : decode cX3_ball 2 = .ok (.putfield 32, 3) := by decide +kernel
theorem dX3_ball_5 : decode cX3_ball 5 = .ok (.iload_n 1, 1) := by decide +kernel
theorem dX3_ball_6 : decode cX3_ball 6 = .ok (.iconst 0, 1) := by decide +kernel
theorem dX3_ball_7 : decode cX3_ball 7 = .ok (.iconst 5, 1) := by decide +kernel
theorem dX3_ball_8 : decode cX3_ball 8 = .ok (.invokestatic 35, 3) := by decide +kernel
theorem dX3_ball_11 : decode cX3_ball 11 = .ok (.ifCond .eq 11, 3) := by decide +kernel
theorem dX3_ball_14 : decode cX3_ball 14 = .ok (.aload_n 0, 1) := by decide +kernel
theorem dX3_ball_15 : decode cX3_ball 15 = .ok (.iload_n 1, 1) := by decide +kernel
theorem dX3_ball_16 : decode cX3_ball 16 = .ok (.invokevirtual 152, 3) := by decide +kernel
theorem dX3_ball_19 : decode cX3_ball 19 = .ok (.goto 8, 3) := by decide +kernel
theorem dX3_ball_22 : decode cX3_ball 22 = .ok (.aload_n 0, 1) := by decide +kernel
theorem dX3_ball_23 : decode cX3_ball 23 = .ok (.iconst 1, 1) := by decide +kernel
theorem dX3_ball_24 : decode cX3_ball 24 = .ok (.invokevirtual 123, 3) := by decide +kernel
theorem dX3_ball_27 : decode cX3_ball 27 = .ok (.ireturn, 1) := by decide +kernel
theorem dX3_sideTold_0 : decode cX3_sideTold 0 = .ok (.iload_n 2, 1) := by decide +kernel
theorem dX3_sideTold_1 : decode cX3_sideTold 1 = .ok (.ifCond .ne 12, 3) := by decide +kernel
theorem dX3_sideTold_4 : decode cX3_sideTold 4 = .ok (.aload_n 0, 1) := by decide +kernel
theorem dX3_sideTold_5 : decode cX3_sideTold 5 = .ok (.getfield 13, 3) := by decide +kernel
theorem dX3_sideTold_8 : decode cX3_sideTold 8 = .ok (.iload_n 1, 1) := by decide +kernel
theorem dX3_sideTold_9 : decode cX3_sideTold 9 = .ok (.iaload, 1) := by decide +kernel
theorem dX3_sideTold_10 : decode cX3_sideTold 10 = .ok (.goto 37, 3) := by decide +kernel
theorem dX3_sideTold_13 : decode cX3_sideTold 13 = .ok (.iload_n 2, 1) := by decide +kernel
theorem dX3_sideTold_14 : decode cX3_sideTold 14 = .ok (.iconst 1, 1) := by decide +kernel
theorem dX3_sideTold_15 : decode cX3_sideTold 15 = .ok (.if_icmp .ne 12, 3) := by decide +kernel
theorem dX3_sideTold_18 : decode cX3_sideTold 18 = .ok (.aload_n 0, 1) := by decide +kernel
theorem dX3_sideTold_19 : decode cX3_sideTold 19 = .ok (.getfield 16, 3) := by decide +kernel
theorem dX3_sideTold_22 : decode cX3_sideTold 22 = .ok (.iload_n 1, 1) := by decide +kernel
theorem dX3_sideTold_23 : decode cX3_sideTold 23 = .ok (.iaload, 1) := by decide +kernel
theorem dX3_sideTold_24 : decode cX3_sideTold 24 = .ok (.goto 23, 3) := by decide +kernel
theorem dX3_sideTold_27 : decode cX3_sideTold 27 = .ok (.iload_n 2, 1) := by decide +kernel
theorem dX3_sideTold_28 : decode cX3_sideTold 28 = .ok (.iconst 2, 1) := by decide +kernel
theorem dX3_sideTold_29 : decode cX3_sideTold 29 = .ok (.if_icmp .ne 12, 3) := by decide +kernel
theorem dX3_sideTold_32 : decode cX3_sideTold 32 = .ok (.aload_n 0, 1) := by decide +kernel
theorem dX3_sideTold_33 : decode cX3_sideTold 33 = .ok (.getfield 19, 3) := by decide +kernel
theorem dX3_sideTold_36 : decode cX3_sideTold 36 = .ok (.iload_n 1, 1) := by decide +kernel
theorem dX3_sideTold_37 : decode cX3_sideTold 37 = .ok (.iaload, 1) := by decide +kernel
theorem dX3_sideTold_38 : decode cX3_sideTold 38 = .ok (.goto 9, 3) := by decide +kernel
theorem dX3_sideTold_41 : decode cX3_sideTold 41 = .ok (.aload_n 0, 1) := by decide +kernel
theorem dX3_sideTold_42 : decode cX3_sideTold 42 = .ok (.getfield 22, 3) := by decide +kernel
theorem dX3_sideTold_45 : decode cX3_sideTold 45 = .ok (.iload_n 1, 1) := by decide +kernel
theorem dX3_sideTold_46 : decode cX3_sideTold 46 = .ok (.iaload, 1) := by decide +kernel
theorem dX3_sideTold_47 : decode cX3_sideTold 47 = .ok (.ireturn, 1) := by decide +kernel
theorem dX3_told_0 : decode cX3_told 0 = .ok (.aload_n 0, 1) := by decide +kernel
theorem dX3_told_1 : decode cX3_told 1 = .ok (.iconst 0, 1) := by decide +kernel
theorem dX3_told_2 : decode cX3_told 2 = .ok (.putfield 32, 3) := by decide +kernel
theorem dX3_told_5 : decode cX3_told 5 = .ok (.iload_n 1, 1) := by decide +kernel
theorem dX3_told_6 : decode cX3_told 6 = .ok (.iconst 0, 1) := by decide +kernel
theorem dX3_told_7 : decode cX3_told 7 = .ok (.iconst 1, 1) := by decide +kernel
theorem dX3_told_8 : decode cX3_told 8 = .ok (.invokestatic 35, 3) := by decide +kernel
theorem dX3_told_11 : decode cX3_told 11 = .ok (.ifCond .eq 21, 3) := by decide +kernel
theorem dX3_told_14 : decode cX3_told 14 = .ok (.iload_n 2, 1) := by decide +kernel
theorem dX3_told_15 : decode cX3_told 15 = .ok (.iconst 0, 1) := by decide +kernel
theorem dX3_told_16 : decode cX3_told 16 = .ok (.iconst 3, 1) := by decide +kernel
theorem dX3_told_17 : decode cX3_told 17 = .ok (.invokestatic 35, 3) := by decide +kernel
theorem dX3_told_20 : decode cX3_told 20 = .ok (.ifCond .eq 12, 3) := by decide +kernel
theorem dX3_told_23 : decode cX3_told 23 = .ok (.aload_n 0, 1) := by decide +kernel
theorem dX3_told_24 : decode cX3_told 24 = .ok (.iload_n 1, 1) := by decide +kernel
theorem dX3_told_25 : decode cX3_told 25 = .ok (.iload_n 2, 1) := by decide +kernel
theorem dX3_told_26 : decode cX3_told 26 = .ok (.invokevirtual 155, 3) := by decide +kernel
theorem dX3_told_29 : decode cX3_told 29 = .ok (.goto 8, 3) := by decide +kernel
theorem dX3_told_32 : decode cX3_told 32 = .ok (.aload_n 0, 1) := by decide +kernel
theorem dX3_told_33 : decode cX3_told 33 = .ok (.iconst 1, 1) := by decide +kernel
theorem dX3_told_34 : decode cX3_told 34 = .ok (.invokevirtual 123, 3) := by decide +kernel
theorem dX3_told_37 : decode cX3_told 37 = .ok (.ireturn, 1) := by decide +kernel
theorem dX3_counted_0 : decode cX3_counted 0 = .ok (.iload_n 1, 1) := by decide +kernel
theorem dX3_counted_1 : decode cX3_counted 1 = .ok (.tableswitch 117 0 7 #[47, 52, 68, 84, 89, 94, 99, 112], 47) := by decide +kernel
theorem dX3_counted_48 : decode cX3_counted 48 = .ok (.aload_n 0, 1) := by decide +kernel
theorem dX3_counted_49 : decode cX3_counted 49 = .ok (.getfield 98, 3) := by decide +kernel
theorem dX3_counted_52 : decode cX3_counted 52 = .ok (.ireturn, 1) := by decide +kernel
theorem dX3_counted_53 : decode cX3_counted 53 = .ok (.aload_n 0, 1) := by decide +kernel
theorem dX3_counted_54 : decode cX3_counted 54 = .ok (.getfield 101, 3) := by decide +kernel
theorem dX3_counted_57 : decode cX3_counted 57 = .ok (.ifCond .eq 10, 3) := by decide +kernel
theorem dX3_counted_60 : decode cX3_counted 60 = .ok (.aload_n 0, 1) := by decide +kernel
theorem dX3_counted_61 : decode cX3_counted 61 = .ok (.getfield 88, 3) := by decide +kernel
theorem dX3_counted_64 : decode cX3_counted 64 = .ok (.goto 4, 3) := by decide +kernel
theorem dX3_counted_67 : decode cX3_counted 67 = .ok (.iconst (-1), 1) := by decide +kernel
theorem dX3_counted_68 : decode cX3_counted 68 = .ok (.ireturn, 1) := by decide +kernel
theorem dX3_counted_69 : decode cX3_counted 69 = .ok (.aload_n 0, 1) := by decide +kernel
theorem dX3_counted_70 : decode cX3_counted 70 = .ok (.getfield 101, 3) := by decide +kernel
theorem dX3_counted_73 : decode cX3_counted 73 = .ok (.ifCond .eq 10, 3) := by decide +kernel
theorem dX3_counted_76 : decode cX3_counted 76 = .ok (.aload_n 0, 1) := by decide +kernel
theorem dX3_counted_77 : decode cX3_counted 77 = .ok (.getfield 85, 3) := by decide +kernel
theorem dX3_counted_80 : decode cX3_counted 80 = .ok (.goto 4, 3) := by decide +kernel
theorem dX3_counted_83 : decode cX3_counted 83 = .ok (.iconst 0, 1) := by decide +kernel
theorem dX3_counted_84 : decode cX3_counted 84 = .ok (.ireturn, 1) := by decide +kernel
theorem dX3_counted_85 : decode cX3_counted 85 = .ok (.aload_n 0, 1) := by decide +kernel
theorem dX3_counted_86 : decode cX3_counted 86 = .ok (.getfield 104, 3) := by decide +kernel
theorem dX3_counted_89 : decode cX3_counted 89 = .ok (.ireturn, 1) := by decide +kernel
theorem dX3_counted_90 : decode cX3_counted 90 = .ok (.aload_n 0, 1) := by decide +kernel
theorem dX3_counted_91 : decode cX3_counted 91 = .ok (.getfield 114, 3) := by decide +kernel
theorem dX3_counted_94 : decode cX3_counted 94 = .ok (.ireturn, 1) := by decide +kernel
theorem dX3_counted_95 : decode cX3_counted 95 = .ok (.aload_n 0, 1) := by decide +kernel
theorem dX3_counted_96 : decode cX3_counted 96 = .ok (.getfield 25, 3) := by decide +kernel
theorem dX3_counted_99 : decode cX3_counted 99 = .ok (.ireturn, 1) := by decide +kernel
theorem dX3_counted_100 : decode cX3_counted 100 = .ok (.aload_n 0, 1) := by decide +kernel
theorem dX3_counted_101 : decode cX3_counted 101 = .ok (.invokevirtual 148, 3) := by decide +kernel
theorem dX3_counted_104 : decode cX3_counted 104 = .ok (.ifCond .eq 7, 3) := by decide +kernel
theorem dX3_counted_107 : decode cX3_counted 107 = .ok (.iconst 1, 1) := by decide +kernel
theorem dX3_counted_108 : decode cX3_counted 108 = .ok (.goto 4, 3) := by decide +kernel
theorem dX3_counted_111 : decode cX3_counted 111 = .ok (.iconst 0, 1) := by decide +kernel
theorem dX3_counted_112 : decode cX3_counted 112 = .ok (.ireturn, 1) := by decide +kernel
theorem dX3_counted_113 : decode cX3_counted 113 = .ok (.aload_n 0, 1) := by decide +kernel
theorem dX3_counted_114 : decode cX3_counted 114 = .ok (.invokevirtual 117, 3) := by decide +kernel
theorem dX3_counted_117 : decode cX3_counted 117 = .ok (.ireturn, 1) := by decide +kernel
theorem dX3_counted_118 : decode cX3_counted 118 = .ok (.aload_n 0, 1) := by decide +kernel
theorem dX3_counted_119 : decode cX3_counted 119 = .ok (.getfield 91, 3) := by decide +kernel
theorem dX3_counted_122 : decode cX3_counted 122 = .ok (.ireturn, 1) := by decide +kernel
theorem dX3_count_0 : decode cX3_count 0 = .ok (.aload_n 0, 1) := by decide +kernel
theorem dX3_count_1 : decode cX3_count 1 = .ok (.iconst 0, 1) := by decide +kernel
theorem dX3_count_2 : decode cX3_count 2 = .ok (.putfield 32, 3) := by decide +kernel
theorem dX3_count_5 : decode cX3_count 5 = .ok (.iload_n 1, 1) := by decide +kernel
theorem dX3_count_6 : decode cX3_count 6 = .ok (.iconst 0, 1) := by decide +kernel
theorem dX3_count_7 : decode cX3_count 7 = .ok (.bipush 8, 2) := by decide +kernel
theorem dX3_count_9 : decode cX3_count 9 = .ok (.invokestatic 35, 3) := by decide +kernel
theorem dX3_count_12 : decode cX3_count 12 = .ok (.ifCond .eq 11, 3) := by decide +kernel
theorem dX3_count_15 : decode cX3_count 15 = .ok (.aload_n 0, 1) := by decide +kernel
theorem dX3_count_16 : decode cX3_count 16 = .ok (.iload_n 1, 1) := by decide +kernel
theorem dX3_count_17 : decode cX3_count 17 = .ok (.invokevirtual 158, 3) := by decide +kernel
theorem dX3_count_20 : decode cX3_count 20 = .ok (.goto 8, 3) := by decide +kernel
theorem dX3_count_23 : decode cX3_count 23 = .ok (.aload_n 0, 1) := by decide +kernel
theorem dX3_count_24 : decode cX3_count 24 = .ok (.iconst 1, 1) := by decide +kernel
theorem dX3_count_25 : decode cX3_count 25 = .ok (.invokevirtual 123, 3) := by decide +kernel
theorem dX3_count_28 : decode cX3_count 28 = .ok (.ireturn, 1) := by decide +kernel
theorem dX3_flight_0 : decode cX3_flight 0 = .ok (.aload_n 0, 1) := by decide +kernel
theorem dX3_flight_1 : decode cX3_flight 1 = .ok (.iconst 0, 1) := by decide +kernel
theorem dX3_flight_2 : decode cX3_flight 2 = .ok (.putfield 32, 3) := by decide +kernel
theorem dX3_flight_5 : decode cX3_flight 5 = .ok (.iload_n 1, 1) := by decide +kernel
theorem dX3_flight_6 : decode cX3_flight 6 = .ok (.iconst 0, 1) := by decide +kernel
theorem dX3_flight_7 : decode cX3_flight 7 = .ok (.bipush 60, 2) := by decide +kernel
theorem dX3_flight_9 : decode cX3_flight 9 = .ok (.invokestatic 35, 3) := by decide +kernel
theorem dX3_flight_12 : decode cX3_flight 12 = .ok (.ifCond .ne 9, 3) := by decide +kernel
theorem dX3_flight_15 : decode cX3_flight 15 = .ok (.aload_n 0, 1) := by decide +kernel
theorem dX3_flight_16 : decode cX3_flight 16 = .ok (.iconst 1, 1) := by decide +kernel
theorem dX3_flight_17 : decode cX3_flight 17 = .ok (.invokevirtual 123, 3) := by decide +kernel
theorem dX3_flight_20 : decode cX3_flight 20 = .ok (.ireturn, 1) := by decide +kernel
theorem dX3_flight_21 : decode cX3_flight 21 = .ok (.iload_n 2, 1) := by decide +kernel
theorem dX3_flight_22 : decode cX3_flight 22 = .ok (.iconst 0, 1) := by decide +kernel
theorem dX3_flight_23 : decode cX3_flight 23 = .ok (.bipush 8, 2) := by decide +kernel
theorem dX3_flight_25 : decode cX3_flight 25 = .ok (.invokestatic 35, 3) := by decide +kernel
theorem dX3_flight_28 : decode cX3_flight 28 = .ok (.ifCond .ne 9, 3) := by decide +kernel
theorem dX3_flight_31 : decode cX3_flight 31 = .ok (.aload_n 0, 1) := by decide +kernel
theorem dX3_flight_32 : decode cX3_flight 32 = .ok (.iconst 2, 1) := by decide +kernel
theorem dX3_flight_33 : decode cX3_flight 33 = .ok (.invokevirtual 123, 3) := by decide +kernel
theorem dX3_flight_36 : decode cX3_flight 36 = .ok (.ireturn, 1) := by decide +kernel
theorem dX3_flight_37 : decode cX3_flight 37 = .ok (.aload_n 0, 1) := by decide +kernel
theorem dX3_flight_38 : decode cX3_flight 38 = .ok (.getfield 101, 3) := by decide +kernel
theorem dX3_flight_41 : decode cX3_flight 41 = .ok (.ifCond .eq 20, 3) := by decide +kernel
theorem dX3_flight_44 : decode cX3_flight 44 = .ok (.aload_n 0, 1) := by decide +kernel
theorem dX3_flight_45 : decode cX3_flight 45 = .ok (.iload_n 1, 1) := by decide +kernel
theorem dX3_flight_46 : decode cX3_flight 46 = .ok (.invokevirtual 136, 3) := by decide +kernel
theorem dX3_flight_49 : decode cX3_flight 49 = .ok (.ifCond .ne 12, 3) := by decide +kernel
theorem dX3_flight_52 : decode cX3_flight 52 = .ok (.aload_n 0, 1) := by decide +kernel
theorem dX3_flight_53 : decode cX3_flight 53 = .ok (.getfield 29, 3) := by decide +kernel
theorem dX3_flight_56 : decode cX3_flight 56 = .ok (.iload_n 2, 1) := by decide +kernel
theorem dX3_flight_57 : decode cX3_flight 57 = .ok (.iaload, 1) := by decide +kernel
theorem dX3_flight_58 : decode cX3_flight 58 = .ok (.goto 5, 3) := by decide +kernel
theorem dX3_flight_61 : decode cX3_flight 61 = .ok (.bipush (-99), 2) := by decide +kernel
theorem dX3_flight_63 : decode cX3_flight 63 = .ok (.ireturn, 1) := by decide +kernel
theorem dX3_endTold_0 : decode cX3_endTold 0 = .ok (.aload_n 0, 1) := by decide +kernel
theorem dX3_endTold_1 : decode cX3_endTold 1 = .ok (.getfield 101, 3) := by decide +kernel
theorem dX3_endTold_4 : decode cX3_endTold 4 = .ok (.ifCond .ne 5, 3) := by decide +kernel
theorem dX3_endTold_7 : decode cX3_endTold 7 = .ok (.iconst 0, 1) := by decide +kernel
theorem dX3_endTold_8 : decode cX3_endTold 8 = .ok (.ireturn, 1) := by decide +kernel
theorem dX3_endTold_9 : decode cX3_endTold 9 = .ok (.aload_n 0, 1) := by decide +kernel
theorem dX3_endTold_10 : decode cX3_endTold 10 = .ok (.invokevirtual 145, 3) := by decide +kernel
theorem dX3_endTold_13 : decode cX3_endTold 13 = .ok (.istore_n 2, 1) := by decide +kernel
theorem dX3_endTold_14 : decode cX3_endTold 14 = .ok (.iload_n 1, 1) := by decide +kernel
theorem dX3_endTold_15 : decode cX3_endTold 15 = .ok (.tableswitch 52 0 3 #[29, 31, 36, 44], 29) := by decide +kernel
theorem dX3_endTold_44 : decode cX3_endTold 44 = .ok (.iload_n 2, 1) := by decide +kernel
theorem dX3_endTold_45 : decode cX3_endTold 45 = .ok (.ireturn, 1) := by decide +kernel
theorem dX3_endTold_46 : decode cX3_endTold 46 = .ok (.aload_n 0, 1) := by decide +kernel
theorem dX3_endTold_47 : decode cX3_endTold 47 = .ok (.getfield 52, 3) := by decide +kernel
theorem dX3_endTold_50 : decode cX3_endTold 50 = .ok (.ireturn, 1) := by decide +kernel
theorem dX3_endTold_51 : decode cX3_endTold 51 = .ok (.aload_n 0, 1) := by decide +kernel
theorem dX3_endTold_52 : decode cX3_endTold 52 = .ok (.getfield 29, 3) := by decide +kernel
theorem dX3_endTold_55 : decode cX3_endTold 55 = .ok (.bipush 6, 2) := by decide +kernel
theorem dX3_endTold_57 : decode cX3_endTold 57 = .ok (.iaload, 1) := by decide +kernel
theorem dX3_endTold_58 : decode cX3_endTold 58 = .ok (.ireturn, 1) := by decide +kernel
theorem dX3_endTold_59 : decode cX3_endTold 59 = .ok (.aload_n 0, 1) := by decide +kernel
theorem dX3_endTold_60 : decode cX3_endTold 60 = .ok (.getfield 29, 3) := by decide +kernel
theorem dX3_endTold_63 : decode cX3_endTold 63 = .ok (.bipush 7, 2) := by decide +kernel
theorem dX3_endTold_65 : decode cX3_endTold 65 = .ok (.iaload, 1) := by decide +kernel
theorem dX3_endTold_66 : decode cX3_endTold 66 = .ok (.ireturn, 1) := by decide +kernel
theorem dX3_endTold_67 : decode cX3_endTold 67 = .ok (.aload_n 0, 1) := by decide +kernel
theorem dX3_endTold_68 : decode cX3_endTold 68 = .ok (.getfield 29, 3) := by decide +kernel
theorem dX3_endTold_71 : decode cX3_endTold 71 = .ok (.bipush 8, 2) := by decide +kernel
theorem dX3_endTold_73 : decode cX3_endTold 73 = .ok (.iaload, 1) := by decide +kernel
theorem dX3_endTold_74 : decode cX3_endTold 74 = .ok (.ireturn, 1) := by decide +kernel
theorem dX3_end_0 : decode cX3_end 0 = .ok (.aload_n 0, 1) := by decide +kernel
theorem dX3_end_1 : decode cX3_end 1 = .ok (.iconst 0, 1) := by decide +kernel
theorem dX3_end_2 : decode cX3_end 2 = .ok (.putfield 32, 3) := by decide +kernel
theorem dX3_end_5 : decode cX3_end 5 = .ok (.iload_n 1, 1) := by decide +kernel
theorem dX3_end_6 : decode cX3_end 6 = .ok (.iconst 0, 1) := by decide +kernel
theorem dX3_end_7 : decode cX3_end 7 = .ok (.iconst 4, 1) := by decide +kernel
theorem dX3_end_8 : decode cX3_end 8 = .ok (.invokestatic 35, 3) := by decide +kernel
theorem dX3_end_11 : decode cX3_end 11 = .ok (.ifCond .eq 11, 3) := by decide +kernel
theorem dX3_end_14 : decode cX3_end 14 = .ok (.aload_n 0, 1) := by decide +kernel
theorem dX3_end_15 : decode cX3_end 15 = .ok (.iload_n 1, 1) := by decide +kernel
theorem dX3_end_16 : decode cX3_end 16 = .ok (.invokevirtual 161, 3) := by decide +kernel
theorem dX3_end_19 : decode cX3_end 19 = .ok (.goto 8, 3) := by decide +kernel
theorem dX3_end_22 : decode cX3_end 22 = .ok (.aload_n 0, 1) := by decide +kernel
theorem dX3_end_23 : decode cX3_end 23 = .ok (.iconst 1, 1) := by decide +kernel
theorem dX3_end_24 : decode cX3_end 24 = .ok (.invokevirtual 123, 3) := by decide +kernel
theorem dX3_end_27 : decode cX3_end 27 = .ok (.ireturn, 1) := by decide +kernel
theorem dX3_comes_0 : decode cX3_comes 0 = .ok (.aload_n 0, 1) := by decide +kernel
theorem dX3_comes_1 : decode cX3_comes 1 = .ok (.getfield 101, 3) := by decide +kernel
theorem dX3_comes_4 : decode cX3_comes 4 = .ok (.ifCond .ne 25, 3) := by decide +kernel
theorem dX3_comes_7 : decode cX3_comes 7 = .ok (.aload_n 0, 1) := by decide +kernel
theorem dX3_comes_8 : decode cX3_comes 8 = .ok (.invokevirtual 126, 3) := by decide +kernel
theorem dX3_comes_11 : decode cX3_comes 11 = .ok (.iload_n 1, 1) := by decide +kernel
theorem dX3_comes_12 : decode cX3_comes 12 = .ok (.ifCond .ne 15, 3) := by decide +kernel
theorem dX3_comes_15 : decode cX3_comes 15 = .ok (.aload_n 0, 1) := by decide +kernel
theorem dX3_comes_16 : decode cX3_comes 16 = .ok (.invokevirtual 117, 3) := by decide +kernel
theorem dX3_comes_19 : decode cX3_comes 19 = .ok (.iconst (-1), 1) := by decide +kernel
theorem dX3_comes_20 : decode cX3_comes 20 = .ok (.if_icmp .ne 7, 3) := by decide +kernel
theorem dX3_comes_23 : decode cX3_comes 23 = .ok (.iconst 1, 1) := by decide +kernel
theorem dX3_comes_24 : decode cX3_comes 24 = .ok (.goto 4, 3) := by decide +kernel
theorem dX3_comes_27 : decode cX3_comes 27 = .ok (.iconst 0, 1) := by decide +kernel
theorem dX3_comes_28 : decode cX3_comes 28 = .ok (.ireturn, 1) := by decide +kernel
theorem dX3_comes_29 : decode cX3_comes 29 = .ok (.iload_n 1, 1) := by decide +kernel
theorem dX3_comes_30 : decode cX3_comes 30 = .ok (.ifCond .le 25, 3) := by decide +kernel
theorem dX3_comes_33 : decode cX3_comes 33 = .ok (.aload_n 0, 1) := by decide +kernel
theorem dX3_comes_34 : decode cX3_comes 34 = .ok (.iload_n 1, 1) := by decide +kernel
theorem dX3_comes_35 : decode cX3_comes 35 = .ok (.invokevirtual 136, 3) := by decide +kernel
theorem dX3_comes_38 : decode cX3_comes 38 = .ok (.ifCond .ne 17, 3) := by decide +kernel
theorem dX3_comes_41 : decode cX3_comes 41 = .ok (.aload_n 0, 1) := by decide +kernel
theorem dX3_comes_42 : decode cX3_comes 42 = .ok (.getfield 29, 3) := by decide +kernel
theorem dX3_comes_45 : decode cX3_comes 45 = .ok (.bipush 6, 2) := by decide +kernel
theorem dX3_comes_47 : decode cX3_comes 47 = .ok (.iaload, 1) := by decide +kernel
theorem dX3_comes_48 : decode cX3_comes 48 = .ok (.ifCond .le 7, 3) := by decide +kernel
theorem dX3_comes_51 : decode cX3_comes 51 = .ok (.iconst 1, 1) := by decide +kernel
theorem dX3_comes_52 : decode cX3_comes 52 = .ok (.goto 4, 3) := by decide +kernel
theorem dX3_comes_55 : decode cX3_comes 55 = .ok (.iconst 0, 1) := by decide +kernel
theorem dX3_comes_56 : decode cX3_comes 56 = .ok (.ireturn, 1) := by decide +kernel
theorem dX3_endOf_0 : decode cX3_endOf 0 = .ok (.aload_n 0, 1) := by decide +kernel
theorem dX3_endOf_1 : decode cX3_endOf 1 = .ok (.iload_n 1, 1) := by decide +kernel
theorem dX3_endOf_2 : decode cX3_endOf 2 = .ok (.invokevirtual 164, 3) := by decide +kernel
theorem dX3_endOf_5 : decode cX3_endOf 5 = .ok (.ifCond .ne 5, 3) := by decide +kernel
theorem dX3_endOf_8 : decode cX3_endOf 8 = .ok (.iconst (-1), 1) := by decide +kernel
theorem dX3_endOf_9 : decode cX3_endOf 9 = .ok (.ireturn, 1) := by decide +kernel
theorem dX3_endOf_10 : decode cX3_endOf 10 = .ok (.aload_n 0, 1) := by decide +kernel
theorem dX3_endOf_11 : decode cX3_endOf 11 = .ok (.iload_n 2, 1) := by decide +kernel
theorem dX3_endOf_12 : decode cX3_endOf 12 = .ok (.iload_n 3, 1) := by decide +kernel
theorem dX3_endOf_13 : decode cX3_endOf 13 = .ok (.iload 4, 2) := by decide +kernel
theorem dX3_endOf_15 : decode cX3_endOf 15 = .ok (.invokevirtual 129, 3) := by decide +kernel
theorem dX3_endOf_18 : decode cX3_endOf 18 = .ok (.aload_n 0, 1) := by decide +kernel
theorem dX3_endOf_19 : decode cX3_endOf 19 = .ok (.iconst 0, 1) := by decide +kernel
theorem dX3_endOf_20 : decode cX3_endOf 20 = .ok (.putfield 52, 3) := by decide +kernel
theorem dX3_endOf_23 : decode cX3_endOf 23 = .ok (.aload_n 0, 1) := by decide +kernel
theorem dX3_endOf_24 : decode cX3_endOf 24 = .ok (.invokevirtual 78, 3) := by decide +kernel
theorem dX3_endOf_27 : decode cX3_endOf 27 = .ok (.ireturn, 1) := by decide +kernel
theorem dX3_would_0 : decode cX3_would 0 = .ok (.aload_n 0, 1) := by decide +kernel
theorem dX3_would_1 : decode cX3_would 1 = .ok (.iconst 0, 1) := by decide +kernel
theorem dX3_would_2 : decode cX3_would 2 = .ok (.putfield 32, 3) := by decide +kernel
theorem dX3_would_5 : decode cX3_would 5 = .ok (.iload_n 1, 1) := by decide +kernel
theorem dX3_would_6 : decode cX3_would 6 = .ok (.iconst 0, 1) := by decide +kernel
theorem dX3_would_7 : decode cX3_would 7 = .ok (.bipush 60, 2) := by decide +kernel
theorem dX3_would_9 : decode cX3_would 9 = .ok (.invokestatic 35, 3) := by decide +kernel
theorem dX3_would_12 : decode cX3_would 12 = .ok (.ifCond .eq 25, 3) := by decide +kernel
theorem dX3_would_15 : decode cX3_would 15 = .ok (.iload_n 2, 1) := by decide +kernel
theorem dX3_would_16 : decode cX3_would 16 = .ok (.iload_n 3, 1) := by decide +kernel
theorem dX3_would_17 : decode cX3_would 17 = .ok (.iload 4, 2) := by decide +kernel
theorem dX3_would_19 : decode cX3_would 19 = .ok (.invokestatic 120, 3) := by decide +kernel
theorem dX3_would_22 : decode cX3_would 22 = .ok (.ifCond .eq 15, 3) := by decide +kernel
theorem dX3_would_25 : decode cX3_would 25 = .ok (.aload_n 0, 1) := by decide +kernel
theorem dX3_would_26 : decode cX3_would 26 = .ok (.iload_n 1, 1) := by decide +kernel
theorem dX3_would_27 : decode cX3_would 27 = .ok (.iload_n 2, 1) := by decide +kernel
theorem dX3_would_28 : decode cX3_would 28 = .ok (.iload_n 3, 1) := by decide +kernel
theorem dX3_would_29 : decode cX3_would 29 = .ok (.iload 4, 2) := by decide +kernel
theorem dX3_would_31 : decode cX3_would 31 = .ok (.invokevirtual 168, 3) := by decide +kernel
theorem dX3_would_34 : decode cX3_would 34 = .ok (.goto 8, 3) := by decide +kernel
theorem dX3_would_37 : decode cX3_would 37 = .ok (.aload_n 0, 1) := by decide +kernel
theorem dX3_would_38 : decode cX3_would 38 = .ok (.iconst 1, 1) := by decide +kernel
theorem dX3_would_39 : decode cX3_would 39 = .ok (.invokevirtual 123, 3) := by decide +kernel
theorem dX3_would_42 : decode cX3_would 42 = .ok (.ireturn, 1) := by decide +kernel
theorem dX3_bestAt_0 : decode cX3_bestAt 0 = .ok (.iconst (-1), 1) := by decide +kernel
theorem dX3_bestAt_1 : decode cX3_bestAt 1 = .ok (.istore_n 2, 1) := by decide +kernel
theorem dX3_bestAt_2 : decode cX3_bestAt 2 = .ok (.iconst 0, 1) := by decide +kernel
theorem dX3_bestAt_3 : decode cX3_bestAt 3 = .ok (.istore_n 3, 1) := by decide +kernel
theorem dX3_bestAt_4 : decode cX3_bestAt 4 = .ok (.iconst 0, 1) := by decide +kernel
theorem dX3_bestAt_5 : decode cX3_bestAt 5 = .ok (.istore 4, 2) := by decide +kernel
theorem dX3_bestAt_7 : decode cX3_bestAt 7 = .ok (.iload 4, 2) := by decide +kernel
theorem dX3_bestAt_9 : decode cX3_bestAt 9 = .ok (.sipush 250, 3) := by decide +kernel
theorem dX3_bestAt_12 : decode cX3_bestAt 12 = .ok (.if_icmp .ge 63, 3) := by decide +kernel
theorem dX3_bestAt_15 : decode cX3_bestAt 15 = .ok (.aload_n 0, 1) := by decide +kernel
theorem dX3_bestAt_16 : decode cX3_bestAt 16 = .ok (.iload_n 1, 1) := by decide +kernel
theorem dX3_bestAt_17 : decode cX3_bestAt 17 = .ok (.iload 4, 2) := by decide +kernel
theorem dX3_bestAt_19 : decode cX3_bestAt 19 = .ok (.bipush 50, 2) := by decide +kernel
theorem dX3_bestAt_21 : decode cX3_bestAt 21 = .ok (.idiv, 1) := by decide +kernel
theorem dX3_bestAt_22 : decode cX3_bestAt 22 = .ok (.iconst 2, 1) := by decide +kernel
theorem dX3_bestAt_23 : decode cX3_bestAt 23 = .ok (.isub, 1) := by decide +kernel
theorem dX3_bestAt_24 : decode cX3_bestAt 24 = .ok (.iload 4, 2) := by decide +kernel
theorem dX3_bestAt_26 : decode cX3_bestAt 26 = .ok (.bipush 10, 2) := by decide +kernel
theorem dX3_bestAt_28 : decode cX3_bestAt 28 = .ok (.idiv, 1) := by decide +kernel
theorem dX3_bestAt_29 : decode cX3_bestAt 29 = .ok (.iconst 5, 1) := by decide +kernel
theorem dX3_bestAt_30 : decode cX3_bestAt 30 = .ok (.irem, 1) := by decide +kernel
theorem dX3_bestAt_31 : decode cX3_bestAt 31 = .ok (.iconst 2, 1) := by decide +kernel
theorem dX3_bestAt_32 : decode cX3_bestAt 32 = .ok (.isub, 1) := by decide +kernel
theorem dX3_bestAt_33 : decode cX3_bestAt 33 = .ok (.iload 4, 2) := by decide +kernel
theorem dX3_bestAt_35 : decode cX3_bestAt 35 = .ok (.bipush 10, 2) := by decide +kernel
theorem dX3_bestAt_37 : decode cX3_bestAt 37 = .ok (.irem, 1) := by decide +kernel
theorem dX3_bestAt_38 : decode cX3_bestAt 38 = .ok (.invokevirtual 168, 3) := by decide +kernel
theorem dX3_bestAt_41 : decode cX3_bestAt 41 = .ok (.iconst 3, 1) := by decide +kernel
theorem dX3_bestAt_42 : decode cX3_bestAt 42 = .ok (.if_icmp .ne 27, 3) := by decide +kernel
theorem dX3_bestAt_45 : decode cX3_bestAt 45 = .ok (.iload_n 2, 1) := by decide +kernel
theorem dX3_bestAt_46 : decode cX3_bestAt 46 = .ok (.iconst (-1), 1) := by decide +kernel
theorem dX3_bestAt_47 : decode cX3_bestAt 47 = .ok (.if_icmp .eq 14, 3) := by decide +kernel
theorem dX3_bestAt_50 : decode cX3_bestAt 50 = .ok (.aload_n 0, 1) := by decide +kernel
theorem dX3_bestAt_51 : decode cX3_bestAt 51 = .ok (.getfield 52, 3) := by decide +kernel
theorem dX3_bestAt_54 : decode cX3_bestAt 54 = .ok (.iload_n 3, 1) := by decide +kernel
theorem dX3_bestAt_55 : decode cX3_bestAt 55 = .ok (.if_icmp .lt 6, 3) := by decide +kernel
theorem dX3_bestAt_58 : decode cX3_bestAt 58 = .ok (.goto 11, 3) := by decide +kernel
theorem dX3_bestAt_61 : decode cX3_bestAt 61 = .ok (.iload 4, 2) := by decide +kernel
theorem dX3_bestAt_63 : decode cX3_bestAt 63 = .ok (.istore_n 2, 1) := by decide +kernel
theorem dX3_bestAt_64 : decode cX3_bestAt 64 = .ok (.aload_n 0, 1) := by decide +kernel
theorem dX3_bestAt_65 : decode cX3_bestAt 65 = .ok (.getfield 52, 3) := by decide +kernel
theorem dX3_bestAt_68 : decode cX3_bestAt 68 = .ok (.istore_n 3, 1) := by decide +kernel
theorem dX3_bestAt_69 : decode cX3_bestAt 69 = .ok (.iinc 4 1, 3) := by decide +kernel
theorem dX3_bestAt_72 : decode cX3_bestAt 72 = .ok (.goto (-65), 3) := by decide +kernel
theorem dX3_bestAt_75 : decode cX3_bestAt 75 = .ok (.iload_n 2, 1) := by decide +kernel
theorem dX3_bestAt_76 : decode cX3_bestAt 76 = .ok (.ireturn, 1) := by decide +kernel
theorem dX3_advise_0 : decode cX3_advise 0 = .ok (.aload_n 0, 1) := by decide +kernel
theorem dX3_advise_1 : decode cX3_advise 1 = .ok (.iconst 0, 1) := by decide +kernel
theorem dX3_advise_2 : decode cX3_advise 2 = .ok (.putfield 32, 3) := by decide +kernel
theorem dX3_advise_5 : decode cX3_advise 5 = .ok (.iload_n 1, 1) := by decide +kernel
theorem dX3_advise_6 : decode cX3_advise 6 = .ok (.iconst 0, 1) := by decide +kernel
theorem dX3_advise_7 : decode cX3_advise 7 = .ok (.bipush 60, 2) := by decide +kernel
theorem dX3_advise_9 : decode cX3_advise 9 = .ok (.invokestatic 35, 3) := by decide +kernel
theorem dX3_advise_12 : decode cX3_advise 12 = .ok (.ifCond .eq 11, 3) := by decide +kernel
theorem dX3_advise_15 : decode cX3_advise 15 = .ok (.aload_n 0, 1) := by decide +kernel
theorem dX3_advise_16 : decode cX3_advise 16 = .ok (.iload_n 1, 1) := by decide +kernel
theorem dX3_advise_17 : decode cX3_advise 17 = .ok (.invokevirtual 172, 3) := by decide +kernel
theorem dX3_advise_20 : decode cX3_advise 20 = .ok (.goto 8, 3) := by decide +kernel
theorem dX3_advise_23 : decode cX3_advise 23 = .ok (.aload_n 0, 1) := by decide +kernel
theorem dX3_advise_24 : decode cX3_advise 24 = .ok (.iconst 1, 1) := by decide +kernel
theorem dX3_advise_25 : decode cX3_advise 25 = .ok (.invokevirtual 123, 3) := by decide +kernel
theorem dX3_advise_28 : decode cX3_advise 28 = .ok (.ireturn, 1) := by decide +kernel
theorem dX3_mean_0 : decode cX3_mean 0 = .ok (.aload_n 0, 1) := by decide +kernel
theorem dX3_mean_1 : decode cX3_mean 1 = .ok (.iconst 0, 1) := by decide +kernel
theorem dX3_mean_2 : decode cX3_mean 2 = .ok (.putfield 32, 3) := by decide +kernel
theorem dX3_mean_5 : decode cX3_mean 5 = .ok (.aload_n 0, 1) := by decide +kernel
theorem dX3_mean_6 : decode cX3_mean 6 = .ok (.getfield 104, 3) := by decide +kernel
theorem dX3_mean_9 : decode cX3_mean 9 = .ok (.ifCond .ne 7, 3) := by decide +kernel
theorem dX3_mean_12 : decode cX3_mean 12 = .ok (.dconst 0, 1) := by decide +kernel
theorem dX3_mean_13 : decode cX3_mean 13 = .ok (.goto 14, 3) := by decide +kernel
theorem dX3_mean_16 : decode cX3_mean 16 = .ok (.aload_n 0, 1) := by decide +kernel
theorem dX3_mean_17 : decode cX3_mean 17 = .ok (.getfield 107, 3) := by decide +kernel
theorem dX3_mean_20 : decode cX3_mean 20 = .ok (.i2d, 1) := by decide +kernel
theorem dX3_mean_21 : decode cX3_mean 21 = .ok (.aload_n 0, 1) := by decide +kernel
theorem dX3_mean_22 : decode cX3_mean 22 = .ok (.getfield 104, 3) := by decide +kernel
theorem dX3_mean_25 : decode cX3_mean 25 = .ok (.i2d, 1) := by decide +kernel
theorem dX3_mean_26 : decode cX3_mean 26 = .ok (.ddiv, 1) := by decide +kernel
theorem dX3_mean_27 : decode cX3_mean 27 = .ok (.dreturn, 1) := by decide +kernel
theorem dX3_digest_0 : decode cX3_digest 0 = .ok (.aload_n 0, 1) := by decide +kernel
theorem dX3_digest_1 : decode cX3_digest 1 = .ok (.iconst 0, 1) := by decide +kernel
theorem dX3_digest_2 : decode cX3_digest 2 = .ok (.putfield 32, 3) := by decide +kernel
theorem dX3_digest_5 : decode cX3_digest 5 = .ok (.ldc2_w 175, 3) := by decide +kernel
theorem dX3_digest_8 : decode cX3_digest 8 = .ok (.lstore_n 1, 1) := by decide +kernel
theorem dX3_digest_9 : decode cX3_digest 9 = .ok (.iconst 0, 1) := by decide +kernel
theorem dX3_digest_10 : decode cX3_digest 10 = .ok (.istore_n 3, 1) := by decide +kernel
theorem dX3_digest_11 : decode cX3_digest 11 = .ok (.iload_n 3, 1) := by decide +kernel
theorem dX3_digest_12 : decode cX3_digest 12 = .ok (.bipush 8, 2) := by decide +kernel
theorem dX3_digest_14 : decode cX3_digest 14 = .ok (.if_icmp .gt 22, 3) := by decide +kernel
theorem dX3_digest_17 : decode cX3_digest 17 = .ok (.lload_n 1, 1) := by decide +kernel
theorem dX3_digest_18 : decode cX3_digest 18 = .ok (.ldc2_w 177, 3) := by decide +kernel
theorem dX3_digest_21 : decode cX3_digest 21 = .ok (.lmul, 1) := by decide +kernel
theorem dX3_digest_22 : decode cX3_digest 22 = .ok (.aload_n 0, 1) := by decide +kernel
theorem dX3_digest_23 : decode cX3_digest 23 = .ok (.iload_n 3, 1) := by decide +kernel
theorem dX3_digest_24 : decode cX3_digest 24 = .ok (.invokevirtual 158, 3) := by decide +kernel
theorem dX3_digest_27 : decode cX3_digest 27 = .ok (.i2l, 1) := by decide +kernel
theorem dX3_digest_28 : decode cX3_digest 28 = .ok (.ladd, 1) := by decide +kernel
theorem dX3_digest_29 : decode cX3_digest 29 = .ok (.lstore_n 1, 1) := by decide +kernel
theorem dX3_digest_30 : decode cX3_digest 30 = .ok (.iinc 3 1, 3) := by decide +kernel
theorem dX3_digest_33 : decode cX3_digest 33 = .ok (.goto (-22), 3) := by decide +kernel
theorem dX3_digest_36 : decode cX3_digest 36 = .ok (.iconst 0, 1) := by decide +kernel
theorem dX3_digest_37 : decode cX3_digest 37 = .ok (.istore_n 3, 1) := by decide +kernel
theorem dX3_digest_38 : decode cX3_digest 38 = .ok (.iload_n 3, 1) := by decide +kernel
theorem dX3_digest_39 : decode cX3_digest 39 = .ok (.iconst 2, 1) := by decide +kernel
theorem dX3_digest_40 : decode cX3_digest 40 = .ok (.if_icmp .ge 39, 3) := by decide +kernel
theorem dX3_digest_43 : decode cX3_digest 43 = .ok (.iconst 0, 1) := by decide +kernel
theorem dX3_digest_44 : decode cX3_digest 44 = .ok (.istore 4, 2) := by decide +kernel
theorem dX3_digest_46 : decode cX3_digest 46 = .ok (.iload 4, 2) := by decide +kernel
theorem dX3_digest_48 : decode cX3_digest 48 = .ok (.iconst 3, 1) := by decide +kernel
theorem dX3_digest_49 : decode cX3_digest 49 = .ok (.if_icmp .gt 24, 3) := by decide +kernel
theorem dX3_digest_52 : decode cX3_digest 52 = .ok (.lload_n 1, 1) := by decide +kernel
theorem dX3_digest_53 : decode cX3_digest 53 = .ok (.ldc2_w 177, 3) := by decide +kernel
theorem dX3_digest_56 : decode cX3_digest 56 = .ok (.lmul, 1) := by decide +kernel
theorem dX3_digest_57 : decode cX3_digest 57 = .ok (.aload_n 0, 1) := by decide +kernel
theorem dX3_digest_58 : decode cX3_digest 58 = .ok (.iload_n 3, 1) := by decide +kernel
theorem dX3_digest_59 : decode cX3_digest 59 = .ok (.iload 4, 2) := by decide +kernel
theorem dX3_digest_61 : decode cX3_digest 61 = .ok (.invokevirtual 155, 3) := by decide +kernel
theorem dX3_digest_64 : decode cX3_digest 64 = .ok (.i2l, 1) := by decide +kernel
theorem dX3_digest_65 : decode cX3_digest 65 = .ok (.ladd, 1) := by decide +kernel
theorem dX3_digest_66 : decode cX3_digest 66 = .ok (.lstore_n 1, 1) := by decide +kernel
theorem dX3_digest_67 : decode cX3_digest 67 = .ok (.iinc 4 1, 3) := by decide +kernel
theorem dX3_digest_70 : decode cX3_digest 70 = .ok (.goto (-24), 3) := by decide +kernel
theorem dX3_digest_73 : decode cX3_digest 73 = .ok (.iinc 3 1, 3) := by decide +kernel
theorem dX3_digest_76 : decode cX3_digest 76 = .ok (.goto (-38), 3) := by decide +kernel
theorem dX3_digest_79 : decode cX3_digest 79 = .ok (.iconst 0, 1) := by decide +kernel
theorem dX3_digest_80 : decode cX3_digest 80 = .ok (.istore_n 3, 1) := by decide +kernel
theorem dX3_digest_81 : decode cX3_digest 81 = .ok (.iload_n 3, 1) := by decide +kernel
theorem dX3_digest_82 : decode cX3_digest 82 = .ok (.iconst 5, 1) := by decide +kernel
theorem dX3_digest_83 : decode cX3_digest 83 = .ok (.if_icmp .gt 22, 3) := by decide +kernel
theorem dX3_digest_86 : decode cX3_digest 86 = .ok (.lload_n 1, 1) := by decide +kernel
theorem dX3_digest_87 : decode cX3_digest 87 = .ok (.ldc2_w 177, 3) := by decide +kernel
theorem dX3_digest_90 : decode cX3_digest 90 = .ok (.lmul, 1) := by decide +kernel
theorem dX3_digest_91 : decode cX3_digest 91 = .ok (.aload_n 0, 1) := by decide +kernel
theorem dX3_digest_92 : decode cX3_digest 92 = .ok (.iload_n 3, 1) := by decide +kernel
theorem dX3_digest_93 : decode cX3_digest 93 = .ok (.invokevirtual 152, 3) := by decide +kernel
theorem dX3_digest_96 : decode cX3_digest 96 = .ok (.i2l, 1) := by decide +kernel
theorem dX3_digest_97 : decode cX3_digest 97 = .ok (.ladd, 1) := by decide +kernel
theorem dX3_digest_98 : decode cX3_digest 98 = .ok (.lstore_n 1, 1) := by decide +kernel
theorem dX3_digest_99 : decode cX3_digest 99 = .ok (.iinc 3 1, 3) := by decide +kernel
theorem dX3_digest_102 : decode cX3_digest 102 = .ok (.goto (-21), 3) := by decide +kernel
theorem dX3_digest_105 : decode cX3_digest 105 = .ok (.iconst 0, 1) := by decide +kernel
theorem dX3_digest_106 : decode cX3_digest 106 = .ok (.istore_n 3, 1) := by decide +kernel
theorem dX3_digest_107 : decode cX3_digest 107 = .ok (.iload_n 3, 1) := by decide +kernel
theorem dX3_digest_108 : decode cX3_digest 108 = .ok (.iconst 4, 1) := by decide +kernel
theorem dX3_digest_109 : decode cX3_digest 109 = .ok (.if_icmp .gt 22, 3) := by decide +kernel
theorem dX3_digest_112 : decode cX3_digest 112 = .ok (.lload_n 1, 1) := by decide +kernel
theorem dX3_digest_113 : decode cX3_digest 113 = .ok (.ldc2_w 177, 3) := by decide +kernel
theorem dX3_digest_116 : decode cX3_digest 116 = .ok (.lmul, 1) := by decide +kernel
theorem dX3_digest_117 : decode cX3_digest 117 = .ok (.aload_n 0, 1) := by decide +kernel
theorem dX3_digest_118 : decode cX3_digest 118 = .ok (.iload_n 3, 1) := by decide +kernel
theorem dX3_digest_119 : decode cX3_digest 119 = .ok (.invokevirtual 161, 3) := by decide +kernel
theorem dX3_digest_122 : decode cX3_digest 122 = .ok (.i2l, 1) := by decide +kernel
theorem dX3_digest_123 : decode cX3_digest 123 = .ok (.ladd, 1) := by decide +kernel
theorem dX3_digest_124 : decode cX3_digest 124 = .ok (.lstore_n 1, 1) := by decide +kernel
theorem dX3_digest_125 : decode cX3_digest 125 = .ok (.iinc 3 1, 3) := by decide +kernel
theorem dX3_digest_128 : decode cX3_digest 128 = .ok (.goto (-21), 3) := by decide +kernel
theorem dX3_digest_131 : decode cX3_digest 131 = .ok (.lload_n 1, 1) := by decide +kernel
theorem dX3_digest_132 : decode cX3_digest 132 = .ok (.lreturn, 1) := by decide +kernel
theorem dJ6_signum_0f7a4_0 : decode cJ6_signum_0f7a4 0 = .ok (.iload_n 0, 1) := by decide +kernel
theorem dJ6_signum_0f7a4_1 : decode cJ6_signum_0f7a4 1 = .ok (.bipush 31, 2) := by decide +kernel
theorem dJ6_signum_0f7a4_3 : decode cJ6_signum_0f7a4 3 = .ok (.ishr, 1) := by decide +kernel
theorem dJ6_signum_0f7a4_4 : decode cJ6_signum_0f7a4 4 = .ok (.iload_n 0, 1) := by decide +kernel
theorem dJ6_signum_0f7a4_5 : decode cJ6_signum_0f7a4 5 = .ok (.ineg, 1) := by decide +kernel
theorem dJ6_signum_0f7a4_6 : decode cJ6_signum_0f7a4 6 = .ok (.bipush 31, 2) := by decide +kernel
theorem dJ6_signum_0f7a4_8 : decode cJ6_signum_0f7a4 8 = .ok (.iushr, 1) := by decide +kernel
theorem dJ6_signum_0f7a4_9 : decode cJ6_signum_0f7a4 9 = .ok (.ior, 1) := by decide +kernel
theorem dJ6_signum_0f7a4_10 : decode cJ6_signum_0f7a4 10 = .ok (.ireturn, 1) := by decide +kernel
theorem dJ9_abs_0f7a4_0 : decode cJ9_abs_0f7a4 0 = .ok (.iload_n 0, 1) := by decide +kernel
theorem dJ9_abs_0f7a4_1 : decode cJ9_abs_0f7a4 1 = .ok (.ifCond .ge 8, 3) := by decide +kernel
theorem dJ9_abs_0f7a4_4 : decode cJ9_abs_0f7a4 4 = .ok (.iload_n 0, 1) := by decide +kernel
theorem dJ9_abs_0f7a4_5 : decode cJ9_abs_0f7a4 5 = .ok (.ineg, 1) := by decide +kernel
theorem dJ9_abs_0f7a4_6 : decode cJ9_abs_0f7a4 6 = .ok (.goto 4, 3) := by decide +kernel
theorem dJ9_abs_0f7a4_9 : decode cJ9_abs_0f7a4 9 = .ok (.iload_n 0, 1) := by decide +kernel
theorem dJ9_abs_0f7a4_10 : decode cJ9_abs_0f7a4 10 = .ok (.ireturn, 1) := by decide +kernel
theorem dJ9_max_7cf53_0 : decode cJ9_max_7cf53 0 = .ok (.iload_n 0, 1) := by decide +kernel
theorem dJ9_max_7cf53_1 : decode cJ9_max_7cf53 1 = .ok (.iload_n 1, 1) := by decide +kernel
theorem dJ9_max_7cf53_2 : decode cJ9_max_7cf53 2 = .ok (.if_icmp .lt 7, 3) := by decide +kernel
theorem dJ9_max_7cf53_5 : decode cJ9_max_7cf53 5 = .ok (.iload_n 0, 1) := by decide +kernel
theorem dJ9_max_7cf53_6 : decode cJ9_max_7cf53 6 = .ok (.goto 4, 3) := by decide +kernel
theorem dJ9_max_7cf53_9 : decode cJ9_max_7cf53 9 = .ok (.iload_n 1, 1) := by decide +kernel
theorem dJ9_max_7cf53_10 : decode cJ9_max_7cf53 10 = .ok (.ireturn, 1) := by decide +kernel
theorem dL_serve_0 : decode cL_serve 0 = .ok (.aload 4, 2) := by decide +kernel
theorem dL_serve_2 : decode cL_serve 2 = .ok (.iconst 0, 1) := by decide +kernel
theorem dL_serve_3 : decode cL_serve 3 = .ok (.aload_n 0, 1) := by decide +kernel
theorem dL_serve_4 : decode cL_serve 4 = .ok (.iload_n 1, 1) := by decide +kernel
theorem dL_serve_5 : decode cL_serve 5 = .ok (.iload_n 2, 1) := by decide +kernel
theorem dL_serve_6 : decode cL_serve 6 = .ok (.iload_n 3, 1) := by decide +kernel
theorem dL_serve_7 : decode cL_serve 7 = .ok (.invokevirtual 7, 3) := by decide +kernel
theorem dL_serve_10 : decode cL_serve 10 = .ok (.i2l, 1) := by decide +kernel
theorem dL_serve_11 : decode cL_serve 11 = .ok (.lastore, 1) := by decide +kernel
theorem dL_serve_12 : decode cL_serve 12 = .ok (.goto 11, 3) := by decide +kernel
theorem dL_serve_15 : decode cL_serve 15 = .ok (.astore 5, 2) := by decide +kernel
theorem dL_serve_17 : decode cL_serve 17 = .ok (.iconst 1, 1) := by decide +kernel
theorem dL_serve_18 : decode cL_serve 18 = .ok (.ireturn, 1) := by decide +kernel
theorem dL_serve_19 : decode cL_serve 19 = .ok (.astore 5, 2) := by decide +kernel
theorem dL_serve_21 : decode cL_serve 21 = .ok (.iconst 2, 1) := by decide +kernel
theorem dL_serve_22 : decode cL_serve 22 = .ok (.ireturn, 1) := by decide +kernel
theorem dL_serve_23 : decode cL_serve 23 = .ok (.iconst 0, 1) := by decide +kernel
theorem dL_serve_24 : decode cL_serve 24 = .ok (.ireturn, 1) := by decide +kernel
theorem dL_strike_0 : decode cL_strike 0 = .ok (.aload 5, 2) := by decide +kernel
theorem dL_strike_2 : decode cL_strike 2 = .ok (.iconst 0, 1) := by decide +kernel
theorem dL_strike_3 : decode cL_strike 3 = .ok (.aload_n 0, 1) := by decide +kernel
theorem dL_strike_4 : decode cL_strike 4 = .ok (.iload_n 1, 1) := by decide +kernel
theorem dL_strike_5 : decode cL_strike 5 = .ok (.iload_n 2, 1) := by decide +kernel
theorem dL_strike_6 : decode cL_strike 6 = .ok (.iload_n 3, 1) := by decide +kernel
theorem dL_strike_7 : decode cL_strike 7 = .ok (.iload 4, 2) := by decide +kernel
theorem dL_strike_9 : decode cL_strike 9 = .ok (.invokevirtual 17, 3) := by decide +kernel
theorem dL_strike_12 : decode cL_strike 12 = .ok (.i2l, 1) := by decide +kernel
theorem dL_strike_13 : decode cL_strike 13 = .ok (.lastore, 1) := by decide +kernel
theorem dL_strike_14 : decode cL_strike 14 = .ok (.goto 11, 3) := by decide +kernel
theorem dL_strike_17 : decode cL_strike 17 = .ok (.astore 6, 2) := by decide +kernel
theorem dL_strike_19 : decode cL_strike 19 = .ok (.iconst 1, 1) := by decide +kernel
theorem dL_strike_20 : decode cL_strike 20 = .ok (.ireturn, 1) := by decide +kernel
theorem dL_strike_21 : decode cL_strike 21 = .ok (.astore 6, 2) := by decide +kernel
theorem dL_strike_23 : decode cL_strike 23 = .ok (.iconst 2, 1) := by decide +kernel
theorem dL_strike_24 : decode cL_strike 24 = .ok (.ireturn, 1) := by decide +kernel
theorem dL_strike_25 : decode cL_strike 25 = .ok (.iconst 0, 1) := by decide +kernel
theorem dL_strike_26 : decode cL_strike 26 = .ok (.ireturn, 1) := by decide +kernel
theorem dL_leave_0 : decode cL_leave 0 = .ok (.aload_n 1, 1) := by decide +kernel
theorem dL_leave_1 : decode cL_leave 1 = .ok (.iconst 0, 1) := by decide +kernel
theorem dL_leave_2 : decode cL_leave 2 = .ok (.aload_n 0, 1) := by decide +kernel
theorem dL_leave_3 : decode cL_leave 3 = .ok (.invokevirtual 21, 3) := by decide +kernel
theorem dL_leave_6 : decode cL_leave 6 = .ok (.i2l, 1) := by decide +kernel
theorem dL_leave_7 : decode cL_leave 7 = .ok (.lastore, 1) := by decide +kernel
theorem dL_leave_8 : decode cL_leave 8 = .ok (.goto 6, 3) := by decide +kernel
theorem dL_leave_11 : decode cL_leave 11 = .ok (.astore_n 2, 1) := by decide +kernel
theorem dL_leave_12 : decode cL_leave 12 = .ok (.iconst 1, 1) := by decide +kernel
theorem dL_leave_13 : decode cL_leave 13 = .ok (.ireturn, 1) := by decide +kernel
theorem dL_leave_14 : decode cL_leave 14 = .ok (.iconst 0, 1) := by decide +kernel
theorem dL_leave_15 : decode cL_leave 15 = .ok (.ireturn, 1) := by decide +kernel
theorem dL_let_0 : decode cL_let 0 = .ok (.aload_n 1, 1) := by decide +kernel
theorem dL_let_1 : decode cL_let 1 = .ok (.iconst 0, 1) := by decide +kernel
theorem dL_let_2 : decode cL_let 2 = .ok (.aload_n 0, 1) := by decide +kernel
theorem dL_let_3 : decode cL_let 3 = .ok (.invokevirtual 25, 3) := by decide +kernel
theorem dL_let_6 : decode cL_let 6 = .ok (.i2l, 1) := by decide +kernel
theorem dL_let_7 : decode cL_let 7 = .ok (.lastore, 1) := by decide +kernel
theorem dL_let_8 : decode cL_let 8 = .ok (.goto 6, 3) := by decide +kernel
theorem dL_let_11 : decode cL_let 11 = .ok (.astore_n 2, 1) := by decide +kernel
theorem dL_let_12 : decode cL_let 12 = .ok (.iconst 1, 1) := by decide +kernel
theorem dL_let_13 : decode cL_let 13 = .ok (.ireturn, 1) := by decide +kernel
theorem dL_let_14 : decode cL_let 14 = .ok (.iconst 0, 1) := by decide +kernel
theorem dL_let_15 : decode cL_let 15 = .ok (.ireturn, 1) := by decide +kernel
theorem dL_set_0 : decode cL_set 0 = .ok (.aload_n 2, 1) := by decide +kernel
theorem dL_set_1 : decode cL_set 1 = .ok (.iconst 0, 1) := by decide +kernel
theorem dL_set_2 : decode cL_set 2 = .ok (.aload_n 0, 1) := by decide +kernel
theorem dL_set_3 : decode cL_set 3 = .ok (.iload_n 1, 1) := by decide +kernel
theorem dL_set_4 : decode cL_set 4 = .ok (.invokevirtual 28, 3) := by decide +kernel
theorem dL_set_7 : decode cL_set 7 = .ok (.i2l, 1) := by decide +kernel
theorem dL_set_8 : decode cL_set 8 = .ok (.lastore, 1) := by decide +kernel
theorem dL_set_9 : decode cL_set 9 = .ok (.goto 9, 3) := by decide +kernel
theorem dL_set_12 : decode cL_set 12 = .ok (.astore_n 3, 1) := by decide +kernel
theorem dL_set_13 : decode cL_set 13 = .ok (.iconst 1, 1) := by decide +kernel
theorem dL_set_14 : decode cL_set 14 = .ok (.ireturn, 1) := by decide +kernel
theorem dL_set_15 : decode cL_set 15 = .ok (.astore_n 3, 1) := by decide +kernel
theorem dL_set_16 : decode cL_set 16 = .ok (.iconst 2, 1) := by decide +kernel
theorem dL_set_17 : decode cL_set 17 = .ok (.ireturn, 1) := by decide +kernel
theorem dL_set_18 : decode cL_set 18 = .ok (.iconst 0, 1) := by decide +kernel
theorem dL_set_19 : decode cL_set 19 = .ok (.ireturn, 1) := by decide +kernel
theorem dL_match_0 : decode cL_match 0 = .ok (.aload_n 2, 1) := by decide +kernel
theorem dL_match_1 : decode cL_match 1 = .ok (.iconst 0, 1) := by decide +kernel
theorem dL_match_2 : decode cL_match 2 = .ok (.aload_n 0, 1) := by decide +kernel
theorem dL_match_3 : decode cL_match 3 = .ok (.iload_n 1, 1) := by decide +kernel
theorem dL_match_4 : decode cL_match 4 = .ok (.invokevirtual 32, 3) := by decide +kernel
theorem dL_match_7 : decode cL_match 7 = .ok (.i2l, 1) := by decide +kernel
theorem dL_match_8 : decode cL_match 8 = .ok (.lastore, 1) := by decide +kernel
theorem dL_match_9 : decode cL_match 9 = .ok (.goto 6, 3) := by decide +kernel
theorem dL_match_12 : decode cL_match 12 = .ok (.astore_n 3, 1) := by decide +kernel
theorem dL_match_13 : decode cL_match 13 = .ok (.iconst 1, 1) := by decide +kernel
theorem dL_match_14 : decode cL_match 14 = .ok (.ireturn, 1) := by decide +kernel
theorem dL_match_15 : decode cL_match 15 = .ok (.iconst 0, 1) := by decide +kernel
theorem dL_match_16 : decode cL_match 16 = .ok (.ireturn, 1) := by decide +kernel
theorem dL_ball_0 : decode cL_ball 0 = .ok (.aload_n 2, 1) := by decide +kernel
theorem dL_ball_1 : decode cL_ball 1 = .ok (.iconst 0, 1) := by decide +kernel
theorem dL_ball_2 : decode cL_ball 2 = .ok (.aload_n 0, 1) := by decide +kernel
theorem dL_ball_3 : decode cL_ball 3 = .ok (.iload_n 1, 1) := by decide +kernel
theorem dL_ball_4 : decode cL_ball 4 = .ok (.invokevirtual 37, 3) := by decide +kernel
theorem dL_ball_7 : decode cL_ball 7 = .ok (.i2l, 1) := by decide +kernel
theorem dL_ball_8 : decode cL_ball 8 = .ok (.lastore, 1) := by decide +kernel
theorem dL_ball_9 : decode cL_ball 9 = .ok (.goto 6, 3) := by decide +kernel
theorem dL_ball_12 : decode cL_ball 12 = .ok (.astore_n 3, 1) := by decide +kernel
theorem dL_ball_13 : decode cL_ball 13 = .ok (.iconst 1, 1) := by decide +kernel
theorem dL_ball_14 : decode cL_ball 14 = .ok (.ireturn, 1) := by decide +kernel
theorem dL_ball_15 : decode cL_ball 15 = .ok (.iconst 0, 1) := by decide +kernel
theorem dL_ball_16 : decode cL_ball 16 = .ok (.ireturn, 1) := by decide +kernel
theorem dL_told_0 : decode cL_told 0 = .ok (.aload_n 3, 1) := by decide +kernel
theorem dL_told_1 : decode cL_told 1 = .ok (.iconst 0, 1) := by decide +kernel
theorem dL_told_2 : decode cL_told 2 = .ok (.aload_n 0, 1) := by decide +kernel
theorem dL_told_3 : decode cL_told 3 = .ok (.iload_n 1, 1) := by decide +kernel
theorem dL_told_4 : decode cL_told 4 = .ok (.iload_n 2, 1) := by decide +kernel
theorem dL_told_5 : decode cL_told 5 = .ok (.invokevirtual 40, 3) := by decide +kernel
theorem dL_told_8 : decode cL_told 8 = .ok (.i2l, 1) := by decide +kernel
theorem dL_told_9 : decode cL_told 9 = .ok (.lastore, 1) := by decide +kernel
theorem dL_told_10 : decode cL_told 10 = .ok (.goto 7, 3) := by decide +kernel
theorem dL_told_13 : decode cL_told 13 = .ok (.astore 4, 2) := by decide +kernel
theorem dL_told_15 : decode cL_told 15 = .ok (.iconst 1, 1) := by decide +kernel
theorem dL_told_16 : decode cL_told 16 = .ok (.ireturn, 1) := by decide +kernel
theorem dL_told_17 : decode cL_told 17 = .ok (.iconst 0, 1) := by decide +kernel
theorem dL_told_18 : decode cL_told 18 = .ok (.ireturn, 1) := by decide +kernel
theorem dL_count_0 : decode cL_count 0 = .ok (.aload_n 2, 1) := by decide +kernel
theorem dL_count_1 : decode cL_count 1 = .ok (.iconst 0, 1) := by decide +kernel
theorem dL_count_2 : decode cL_count 2 = .ok (.aload_n 0, 1) := by decide +kernel
theorem dL_count_3 : decode cL_count 3 = .ok (.iload_n 1, 1) := by decide +kernel
theorem dL_count_4 : decode cL_count 4 = .ok (.invokevirtual 44, 3) := by decide +kernel
theorem dL_count_7 : decode cL_count 7 = .ok (.i2l, 1) := by decide +kernel
theorem dL_count_8 : decode cL_count 8 = .ok (.lastore, 1) := by decide +kernel
theorem dL_count_9 : decode cL_count 9 = .ok (.goto 6, 3) := by decide +kernel
theorem dL_count_12 : decode cL_count 12 = .ok (.astore_n 3, 1) := by decide +kernel
theorem dL_count_13 : decode cL_count 13 = .ok (.iconst 1, 1) := by decide +kernel
theorem dL_count_14 : decode cL_count 14 = .ok (.ireturn, 1) := by decide +kernel
theorem dL_count_15 : decode cL_count 15 = .ok (.iconst 0, 1) := by decide +kernel
theorem dL_count_16 : decode cL_count 16 = .ok (.ireturn, 1) := by decide +kernel
theorem dL_flight_0 : decode cL_flight 0 = .ok (.aload_n 3, 1) := by decide +kernel
theorem dL_flight_1 : decode cL_flight 1 = .ok (.iconst 0, 1) := by decide +kernel
theorem dL_flight_2 : decode cL_flight 2 = .ok (.aload_n 0, 1) := by decide +kernel
theorem dL_flight_3 : decode cL_flight 3 = .ok (.iload_n 1, 1) := by decide +kernel
theorem dL_flight_4 : decode cL_flight 4 = .ok (.iload_n 2, 1) := by decide +kernel
theorem dL_flight_5 : decode cL_flight 5 = .ok (.invokevirtual 47, 3) := by decide +kernel
theorem dL_flight_8 : decode cL_flight 8 = .ok (.i2l, 1) := by decide +kernel
theorem dL_flight_9 : decode cL_flight 9 = .ok (.lastore, 1) := by decide +kernel
theorem dL_flight_10 : decode cL_flight 10 = .ok (.goto 11, 3) := by decide +kernel
theorem dL_flight_13 : decode cL_flight 13 = .ok (.astore 4, 2) := by decide +kernel
theorem dL_flight_15 : decode cL_flight 15 = .ok (.iconst 1, 1) := by decide +kernel
theorem dL_flight_16 : decode cL_flight 16 = .ok (.ireturn, 1) := by decide +kernel
theorem dL_flight_17 : decode cL_flight 17 = .ok (.astore 4, 2) := by decide +kernel
theorem dL_flight_19 : decode cL_flight 19 = .ok (.iconst 2, 1) := by decide +kernel
theorem dL_flight_20 : decode cL_flight 20 = .ok (.ireturn, 1) := by decide +kernel
theorem dL_flight_21 : decode cL_flight 21 = .ok (.iconst 0, 1) := by decide +kernel
theorem dL_flight_22 : decode cL_flight 22 = .ok (.ireturn, 1) := by decide +kernel
theorem dL_end_0 : decode cL_end 0 = .ok (.aload_n 2, 1) := by decide +kernel
theorem dL_end_1 : decode cL_end 1 = .ok (.iconst 0, 1) := by decide +kernel
theorem dL_end_2 : decode cL_end 2 = .ok (.aload_n 0, 1) := by decide +kernel
theorem dL_end_3 : decode cL_end 3 = .ok (.iload_n 1, 1) := by decide +kernel
theorem dL_end_4 : decode cL_end 4 = .ok (.invokevirtual 50, 3) := by decide +kernel
theorem dL_end_7 : decode cL_end 7 = .ok (.i2l, 1) := by decide +kernel
theorem dL_end_8 : decode cL_end 8 = .ok (.lastore, 1) := by decide +kernel
theorem dL_end_9 : decode cL_end 9 = .ok (.goto 6, 3) := by decide +kernel
theorem dL_end_12 : decode cL_end 12 = .ok (.astore_n 3, 1) := by decide +kernel
theorem dL_end_13 : decode cL_end 13 = .ok (.iconst 1, 1) := by decide +kernel
theorem dL_end_14 : decode cL_end 14 = .ok (.ireturn, 1) := by decide +kernel
theorem dL_end_15 : decode cL_end 15 = .ok (.iconst 0, 1) := by decide +kernel
theorem dL_end_16 : decode cL_end 16 = .ok (.ireturn, 1) := by decide +kernel
theorem dL_would_0 : decode cL_would 0 = .ok (.aload 5, 2) := by decide +kernel
theorem dL_would_2 : decode cL_would 2 = .ok (.iconst 0, 1) := by decide +kernel
theorem dL_would_3 : decode cL_would 3 = .ok (.aload_n 0, 1) := by decide +kernel
theorem dL_would_4 : decode cL_would 4 = .ok (.iload_n 1, 1) := by decide +kernel
theorem dL_would_5 : decode cL_would 5 = .ok (.iload_n 2, 1) := by decide +kernel
theorem dL_would_6 : decode cL_would 6 = .ok (.iload_n 3, 1) := by decide +kernel
theorem dL_would_7 : decode cL_would 7 = .ok (.iload 4, 2) := by decide +kernel
theorem dL_would_9 : decode cL_would 9 = .ok (.invokevirtual 53, 3) := by decide +kernel
theorem dL_would_12 : decode cL_would 12 = .ok (.i2l, 1) := by decide +kernel
theorem dL_would_13 : decode cL_would 13 = .ok (.lastore, 1) := by decide +kernel
theorem dL_would_14 : decode cL_would 14 = .ok (.goto 7, 3) := by decide +kernel
theorem dL_would_17 : decode cL_would 17 = .ok (.astore 6, 2) := by decide +kernel
theorem dL_would_19 : decode cL_would 19 = .ok (.iconst 1, 1) := by decide +kernel
theorem dL_would_20 : decode cL_would 20 = .ok (.ireturn, 1) := by decide +kernel
theorem dL_would_21 : decode cL_would 21 = .ok (.iconst 0, 1) := by decide +kernel
theorem dL_would_22 : decode cL_would 22 = .ok (.ireturn, 1) := by decide +kernel
theorem dL_advise_0 : decode cL_advise 0 = .ok (.aload_n 2, 1) := by decide +kernel
theorem dL_advise_1 : decode cL_advise 1 = .ok (.iconst 0, 1) := by decide +kernel
theorem dL_advise_2 : decode cL_advise 2 = .ok (.aload_n 0, 1) := by decide +kernel
theorem dL_advise_3 : decode cL_advise 3 = .ok (.iload_n 1, 1) := by decide +kernel
theorem dL_advise_4 : decode cL_advise 4 = .ok (.invokevirtual 56, 3) := by decide +kernel
theorem dL_advise_7 : decode cL_advise 7 = .ok (.i2l, 1) := by decide +kernel
theorem dL_advise_8 : decode cL_advise 8 = .ok (.lastore, 1) := by decide +kernel
theorem dL_advise_9 : decode cL_advise 9 = .ok (.goto 6, 3) := by decide +kernel
theorem dL_advise_12 : decode cL_advise 12 = .ok (.astore_n 3, 1) := by decide +kernel
theorem dL_advise_13 : decode cL_advise 13 = .ok (.iconst 1, 1) := by decide +kernel
theorem dL_advise_14 : decode cL_advise 14 = .ok (.ireturn, 1) := by decide +kernel
theorem dL_advise_15 : decode cL_advise 15 = .ok (.iconst 0, 1) := by decide +kernel
theorem dL_advise_16 : decode cL_advise 16 = .ok (.ireturn, 1) := by decide +kernel
theorem dL_law_0 : decode cL_law 0 = .ok (.new 8, 3) := by decide +kernel
theorem dL_law_3 : decode cL_law 3 = .ok (.dup, 1) := by decide +kernel
theorem dL_law_4 : decode cL_law 4 = .ok (.invokespecial 59, 3) := by decide +kernel
theorem dL_law_7 : decode cL_law 7 = .ok (.astore_n 1, 1) := by decide +kernel
theorem dL_law_8 : decode cL_law 8 = .ok (.new 60, 3) := by decide +kernel
theorem dL_law_11 : decode cL_law 11 = .ok (.dup, 1) := by decide +kernel
theorem dL_law_12 : decode cL_law 12 = .ok (.invokespecial 62, 3) := by decide +kernel
theorem dL_law_15 : decode cL_law 15 = .ok (.astore_n 2, 1) := by decide +kernel
theorem dL_law_16 : decode cL_law 16 = .ok (.iconst 1, 1) := by decide +kernel
theorem dL_law_17 : decode cL_law 17 = .ok (.newarray .long, 2) := by decide +kernel
theorem dL_law_19 : decode cL_law 19 = .ok (.astore_n 3, 1) := by decide +kernel
theorem dL_law_20 : decode cL_law 20 = .ok (.iconst 0, 1) := by decide +kernel
theorem dL_law_21 : decode cL_law 21 = .ok (.istore 4, 2) := by decide +kernel
theorem dL_law_23 : decode cL_law 23 = .ok (.iload 4, 2) := by decide +kernel
theorem dL_law_25 : decode cL_law 25 = .ok (.aload_n 0, 1) := by decide +kernel
theorem dL_law_26 : decode cL_law 26 = .ok (.arraylength, 1) := by decide +kernel
theorem dL_law_27 : decode cL_law 27 = .ok (.iconst 5, 1) := by decide +kernel
theorem dL_law_28 : decode cL_law 28 = .ok (.isub, 1) := by decide +kernel
theorem dL_law_29 : decode cL_law 29 = .ok (.if_icmp .gt 968, 3) := by decide +kernel
theorem dL_law_32 : decode cL_law 32 = .ok (.aload_n 0, 1) := by decide +kernel
theorem dL_law_33 : decode cL_law 33 = .ok (.iload 4, 2) := by decide +kernel
theorem dL_law_35 : decode cL_law 35 = .ok (.iaload, 1) := by decide +kernel
theorem dL_law_36 : decode cL_law 36 = .ok (.bipush 15, 2) := by decide +kernel
theorem dL_law_38 : decode cL_law 38 = .ok (.iand, 1) := by decide +kernel
theorem dL_law_39 : decode cL_law 39 = .ok (.tableswitch 952 0 14 #[73, 153, 245, 289, 333, 389, 445, 501, 569, 625, 693, 749, 841, 897, 938], 73) := by decide +kernel
theorem dL_law_112 : decode cL_law 112 = .ok (.aload_n 1, 1) := by decide +kernel
theorem dL_law_113 : decode cL_law 113 = .ok (.aload_n 0, 1) := by decide +kernel
theorem dL_law_114 : decode cL_law 114 = .ok (.iload 4, 2) := by decide +kernel
theorem dL_law_116 : decode cL_law 116 = .ok (.iconst 1, 1) := by decide +kernel
theorem dL_law_117 : decode cL_law 117 = .ok (.iadd, 1) := by decide +kernel
theorem dL_law_118 : decode cL_law 118 = .ok (.iaload, 1) := by decide +kernel
theorem dL_law_119 : decode cL_law 119 = .ok (.aload_n 0, 1) := by decide +kernel
theorem dL_law_120 : decode cL_law 120 = .ok (.iload 4, 2) := by decide +kernel
theorem dL_law_122 : decode cL_law 122 = .ok (.iconst 2, 1) := by decide +kernel
theorem dL_law_123 : decode cL_law 123 = .ok (.iadd, 1) := by decide +kernel
theorem dL_law_124 : decode cL_law 124 = .ok (.iaload, 1) := by decide +kernel
theorem dL_law_125 : decode cL_law 125 = .ok (.aload_n 0, 1) := by decide +kernel
theorem dL_law_126 : decode cL_law 126 = .ok (.iload 4, 2) := by decide +kernel
theorem dL_law_128 : decode cL_law 128 = .ok (.iconst 3, 1) := by decide +kernel
theorem dL_law_129 : decode cL_law 129 = .ok (.iadd, 1) := by decide +kernel
theorem dL_law_130 : decode cL_law 130 = .ok (.iaload, 1) := by decide +kernel
theorem dL_law_131 : decode cL_law 131 = .ok (.aload_n 3, 1) := by decide +kernel
theorem dL_law_132 : decode cL_law 132 = .ok (.invokestatic 63, 3) := by decide +kernel
theorem dL_law_135 : decode cL_law 135 = .ok (.istore 5, 2) := by decide +kernel
theorem dL_law_137 : decode cL_law 137 = .ok (.aload_n 2, 1) := by decide +kernel
theorem dL_law_138 : decode cL_law 138 = .ok (.aload_n 0, 1) := by decide +kernel
theorem dL_law_139 : decode cL_law 139 = .ok (.iload 4, 2) := by decide +kernel
theorem dL_law_141 : decode cL_law 141 = .ok (.iconst 1, 1) := by decide +kernel
theorem dL_law_142 : decode cL_law 142 = .ok (.iadd, 1) := by decide +kernel
theorem dL_law_143 : decode cL_law 143 = .ok (.iaload, 1) := by decide +kernel
theorem dL_law_144 : decode cL_law 144 = .ok (.aload_n 0, 1) := by decide +kernel
theorem dL_law_145 : decode cL_law 145 = .ok (.iload 4, 2) := by decide +kernel
theorem dL_law_147 : decode cL_law 147 = .ok (.iconst 2, 1) := by decide +kernel
theorem dL_law_148 : decode cL_law 148 = .ok (.iadd, 1) := by decide +kernel
theorem dL_law_149 : decode cL_law 149 = .ok (.iaload, 1) := by decide +kernel
theorem dL_law_150 : decode cL_law 150 = .ok (.aload_n 0, 1) := by decide +kernel
theorem dL_law_151 : decode cL_law 151 = .ok (.iload 4, 2) := by decide +kernel
theorem dL_law_153 : decode cL_law 153 = .ok (.iconst 3, 1) := by decide +kernel
theorem dL_law_154 : decode cL_law 154 = .ok (.iadd, 1) := by decide +kernel
theorem dL_law_155 : decode cL_law 155 = .ok (.iaload, 1) := by decide +kernel
theorem dL_law_156 : decode cL_law 156 = .ok (.invokevirtual 68, 3) := by decide +kernel
theorem dL_law_159 : decode cL_law 159 = .ok (.istore 6, 2) := by decide +kernel
theorem dL_law_161 : decode cL_law 161 = .ok (.aload_n 2, 1) := by decide +kernel
theorem dL_law_162 : decode cL_law 162 = .ok (.invokevirtual 69, 3) := by decide +kernel
theorem dL_law_165 : decode cL_law 165 = .ok (.iload 5, 2) := by decide +kernel
theorem dL_law_167 : decode cL_law 167 = .ok (.if_icmp .eq 5, 3) := by decide +kernel
theorem dL_law_170 : decode cL_law 170 = .ok (.iconst 0, 1) := by decide +kernel
theorem dL_law_171 : decode cL_law 171 = .ok (.ireturn, 1) := by decide +kernel
theorem dL_law_172 : decode cL_law 172 = .ok (.iload 5, 2) := by decide +kernel
theorem dL_law_174 : decode cL_law 174 = .ok (.ifCond .ne 15, 3) := by decide +kernel
theorem dL_law_177 : decode cL_law 177 = .ok (.aload_n 3, 1) := by decide +kernel
theorem dL_law_178 : decode cL_law 178 = .ok (.iconst 0, 1) := by decide +kernel
theorem dL_law_179 : decode cL_law 179 = .ok (.laload, 1) := by decide +kernel
theorem dL_law_180 : decode cL_law 180 = .ok (.iload 6, 2) := by decide +kernel
theorem dL_law_182 : decode cL_law 182 = .ok (.i2l, 1) := by decide +kernel
theorem dL_law_183 : decode cL_law 183 = .ok (.lcmp, 1) := by decide +kernel
theorem dL_law_184 : decode cL_law 184 = .ok (.ifCond .eq 5, 3) := by decide +kernel
theorem dL_law_187 : decode cL_law 187 = .ok (.iconst 0, 1) := by decide +kernel
theorem dL_law_188 : decode cL_law 188 = .ok (.ireturn, 1) := by decide +kernel
theorem dL_law_189 : decode cL_law 189 = .ok (.goto 802, 3) := by decide +kernel
theorem dL_law_192 : decode cL_law 192 = .ok (.aload_n 1, 1) := by decide +kernel
theorem dL_law_193 : decode cL_law 193 = .ok (.aload_n 0, 1) := by decide +kernel
theorem dL_law_194 : decode cL_law 194 = .ok (.iload 4, 2) := by decide +kernel
theorem dL_law_196 : decode cL_law 196 = .ok (.iconst 1, 1) := by decide +kernel
theorem dL_law_197 : decode cL_law 197 = .ok (.iadd, 1) := by decide +kernel
theorem dL_law_198 : decode cL_law 198 = .ok (.iaload, 1) := by decide +kernel
theorem dL_law_199 : decode cL_law 199 = .ok (.aload_n 0, 1) := by decide +kernel
theorem dL_law_200 : decode cL_law 200 = .ok (.iload 4, 2) := by decide +kernel
theorem dL_law_202 : decode cL_law 202 = .ok (.iconst 2, 1) := by decide +kernel
theorem dL_law_203 : decode cL_law 203 = .ok (.iadd, 1) := by decide +kernel
theorem dL_law_204 : decode cL_law 204 = .ok (.iaload, 1) := by decide +kernel
theorem dL_law_205 : decode cL_law 205 = .ok (.aload_n 0, 1) := by decide +kernel
theorem dL_law_206 : decode cL_law 206 = .ok (.iload 4, 2) := by decide +kernel
theorem dL_law_208 : decode cL_law 208 = .ok (.iconst 3, 1) := by decide +kernel
theorem dL_law_209 : decode cL_law 209 = .ok (.iadd, 1) := by decide +kernel
theorem dL_law_210 : decode cL_law 210 = .ok (.iaload, 1) := by decide +kernel
theorem dL_law_211 : decode cL_law 211 = .ok (.aload_n 0, 1) := by decide +kernel
theorem dL_law_212 : decode cL_law 212 = .ok (.iload 4, 2) := by decide +kernel
theorem dL_law_214 : decode cL_law 214 = .ok (.iconst 4, 1) := by decide +kernel
theorem dL_law_215 : decode cL_law 215 = .ok (.iadd, 1) := by decide +kernel
theorem dL_law_216 : decode cL_law 216 = .ok (.iaload, 1) := by decide +kernel
theorem dL_law_217 : decode cL_law 217 = .ok (.aload_n 3, 1) := by decide +kernel
theorem dL_law_218 : decode cL_law 218 = .ok (.invokestatic 72, 3) := by decide +kernel
theorem dL_law_221 : decode cL_law 221 = .ok (.istore 5, 2) := by decide +kernel
theorem dL_law_223 : decode cL_law 223 = .ok (.aload_n 2, 1) := by decide +kernel
theorem dL_law_224 : decode cL_law 224 = .ok (.aload_n 0, 1) := by decide +kernel
theorem dL_law_225 : decode cL_law 225 = .ok (.iload 4, 2) := by decide +kernel
theorem dL_law_227 : decode cL_law 227 = .ok (.iconst 1, 1) := by decide +kernel
theorem dL_law_228 : decode cL_law 228 = .ok (.iadd, 1) := by decide +kernel
theorem dL_law_229 : decode cL_law 229 = .ok (.iaload, 1) := by decide +kernel
theorem dL_law_230 : decode cL_law 230 = .ok (.aload_n 0, 1) := by decide +kernel
theorem dL_law_231 : decode cL_law 231 = .ok (.iload 4, 2) := by decide +kernel
theorem dL_law_233 : decode cL_law 233 = .ok (.iconst 2, 1) := by decide +kernel
theorem dL_law_234 : decode cL_law 234 = .ok (.iadd, 1) := by decide +kernel
theorem dL_law_235 : decode cL_law 235 = .ok (.iaload, 1) := by decide +kernel
theorem dL_law_236 : decode cL_law 236 = .ok (.aload_n 0, 1) := by decide +kernel
theorem dL_law_237 : decode cL_law 237 = .ok (.iload 4, 2) := by decide +kernel
theorem dL_law_239 : decode cL_law 239 = .ok (.iconst 3, 1) := by decide +kernel
theorem dL_law_240 : decode cL_law 240 = .ok (.iadd, 1) := by decide +kernel
theorem dL_law_241 : decode cL_law 241 = .ok (.iaload, 1) := by decide +kernel
theorem dL_law_242 : decode cL_law 242 = .ok (.aload_n 0, 1) := by decide +kernel
theorem dL_law_243 : decode cL_law 243 = .ok (.iload 4, 2) := by decide +kernel
theorem dL_law_245 : decode cL_law 245 = .ok (.iconst 4, 1) := by decide +kernel
theorem dL_law_246 : decode cL_law 246 = .ok (.iadd, 1) := by decide +kernel
theorem dL_law_247 : decode cL_law 247 = .ok (.iaload, 1) := by decide +kernel
theorem dL_law_248 : decode cL_law 248 = .ok (.invokevirtual 75, 3) := by decide +kernel
theorem dL_law_251 : decode cL_law 251 = .ok (.istore 6, 2) := by decide +kernel
theorem dL_law_253 : decode cL_law 253 = .ok (.aload_n 2, 1) := by decide +kernel
theorem dL_law_254 : decode cL_law 254 = .ok (.invokevirtual 69, 3) := by decide +kernel
theorem dL_law_257 : decode cL_law 257 = .ok (.iload 5, 2) := by decide +kernel
theorem dL_law_259 : decode cL_law 259 = .ok (.if_icmp .eq 5, 3) := by decide +kernel
theorem dL_law_262 : decode cL_law 262 = .ok (.iconst 0, 1) := by decide +kernel
theorem dL_law_263 : decode cL_law 263 = .ok (.ireturn, 1) := by decide +kernel
theorem dL_law_264 : decode cL_law 264 = .ok (.iload 5, 2) := by decide +kernel
theorem dL_law_266 : decode cL_law 266 = .ok (.ifCond .ne 15, 3) := by decide +kernel
theorem dL_law_269 : decode cL_law 269 = .ok (.aload_n 3, 1) := by decide +kernel
theorem dL_law_270 : decode cL_law 270 = .ok (.iconst 0, 1) := by decide +kernel
theorem dL_law_271 : decode cL_law 271 = .ok (.laload, 1) := by decide +kernel
theorem dL_law_272 : decode cL_law 272 = .ok (.iload 6, 2) := by decide +kernel
theorem dL_law_274 : decode cL_law 274 = .ok (.i2l, 1) := by decide +kernel
theorem dL_law_275 : decode cL_law 275 = .ok (.lcmp, 1) := by decide +kernel
theorem dL_law_276 : decode cL_law 276 = .ok (.ifCond .eq 5, 3) := by decide +kernel
theorem dL_law_279 : decode cL_law 279 = .ok (.iconst 0, 1) := by decide +kernel
theorem dL_law_280 : decode cL_law 280 = .ok (.ireturn, 1) := by decide +kernel
theorem dL_law_281 : decode cL_law 281 = .ok (.goto 710, 3) := by decide +kernel
theorem dL_law_284 : decode cL_law 284 = .ok (.aload_n 1, 1) := by decide +kernel
theorem dL_law_285 : decode cL_law 285 = .ok (.aload_n 3, 1) := by decide +kernel
theorem dL_law_286 : decode cL_law 286 = .ok (.invokestatic 76, 3) := by decide +kernel
theorem dL_law_289 : decode cL_law 289 = .ok (.istore 5, 2) := by decide +kernel
theorem dL_law_291 : decode cL_law 291 = .ok (.aload_n 2, 1) := by decide +kernel
theorem dL_law_292 : decode cL_law 292 = .ok (.invokevirtual 79, 3) := by decide +kernel
theorem dL_law_295 : decode cL_law 295 = .ok (.istore 6, 2) := by decide +kernel
theorem dL_law_297 : decode cL_law 297 = .ok (.aload_n 2, 1) := by decide +kernel
theorem dL_law_298 : decode cL_law 298 = .ok (.invokevirtual 69, 3) := by decide +kernel
theorem dL_law_301 : decode cL_law 301 = .ok (.iload 5, 2) := by decide +kernel
theorem dL_law_303 : decode cL_law 303 = .ok (.if_icmp .eq 5, 3) := by decide +kernel
theorem dL_law_306 : decode cL_law 306 = .ok (.iconst 0, 1) := by decide +kernel
theorem dL_law_307 : decode cL_law 307 = .ok (.ireturn, 1) := by decide +kernel
theorem dL_law_308 : decode cL_law 308 = .ok (.iload 5, 2) := by decide +kernel
theorem dL_law_310 : decode cL_law 310 = .ok (.ifCond .ne 15, 3) := by decide +kernel
theorem dL_law_313 : decode cL_law 313 = .ok (.aload_n 3, 1) := by decide +kernel
theorem dL_law_314 : decode cL_law 314 = .ok (.iconst 0, 1) := by decide +kernel
theorem dL_law_315 : decode cL_law 315 = .ok (.laload, 1) := by decide +kernel
theorem dL_law_316 : decode cL_law 316 = .ok (.iload 6, 2) := by decide +kernel
theorem dL_law_318 : decode cL_law 318 = .ok (.i2l, 1) := by decide +kernel
theorem dL_law_319 : decode cL_law 319 = .ok (.lcmp, 1) := by decide +kernel
theorem dL_law_320 : decode cL_law 320 = .ok (.ifCond .eq 5, 3) := by decide +kernel
theorem dL_law_323 : decode cL_law 323 = .ok (.iconst 0, 1) := by decide +kernel
theorem dL_law_324 : decode cL_law 324 = .ok (.ireturn, 1) := by decide +kernel
theorem dL_law_325 : decode cL_law 325 = .ok (.goto 666, 3) := by decide +kernel
theorem dL_law_328 : decode cL_law 328 = .ok (.aload_n 1, 1) := by decide +kernel
theorem dL_law_329 : decode cL_law 329 = .ok (.aload_n 3, 1) := by decide +kernel
theorem dL_law_330 : decode cL_law 330 = .ok (.invokestatic 80, 3) := by decide +kernel
theorem dL_law_333 : decode cL_law 333 = .ok (.istore 5, 2) := by decide +kernel
theorem dL_law_335 : decode cL_law 335 = .ok (.aload_n 2, 1) := by decide +kernel
theorem dL_law_336 : decode cL_law 336 = .ok (.invokevirtual 82, 3) := by decide +kernel
theorem dL_law_339 : decode cL_law 339 = .ok (.istore 6, 2) := by decide +kernel
theorem dL_law_341 : decode cL_law 341 = .ok (.aload_n 2, 1) := by decide +kernel
theorem dL_law_342 : decode cL_law 342 = .ok (.invokevirtual 69, 3) := by decide +kernel
theorem dL_law_345 : decode cL_law 345 = .ok (.iload 5, 2) := by decide +kernel
theorem dL_law_347 : decode cL_law 347 = .ok (.if_icmp .eq 5, 3) := by decide +kernel
theorem dL_law_350 : decode cL_law 350 = .ok (.iconst 0, 1) := by decide +kernel
theorem dL_law_351 : decode cL_law 351 = .ok (.ireturn, 1) := by decide +kernel
theorem dL_law_352 : decode cL_law 352 = .ok (.iload 5, 2) := by decide +kernel
theorem dL_law_354 : decode cL_law 354 = .ok (.ifCond .ne 15, 3) := by decide +kernel
theorem dL_law_357 : decode cL_law 357 = .ok (.aload_n 3, 1) := by decide +kernel
theorem dL_law_358 : decode cL_law 358 = .ok (.iconst 0, 1) := by decide +kernel
theorem dL_law_359 : decode cL_law 359 = .ok (.laload, 1) := by decide +kernel
theorem dL_law_360 : decode cL_law 360 = .ok (.iload 6, 2) := by decide +kernel
theorem dL_law_362 : decode cL_law 362 = .ok (.i2l, 1) := by decide +kernel
theorem dL_law_363 : decode cL_law 363 = .ok (.lcmp, 1) := by decide +kernel
theorem dL_law_364 : decode cL_law 364 = .ok (.ifCond .eq 5, 3) := by decide +kernel
theorem dL_law_367 : decode cL_law 367 = .ok (.iconst 0, 1) := by decide +kernel
theorem dL_law_368 : decode cL_law 368 = .ok (.ireturn, 1) := by decide +kernel
theorem dL_law_369 : decode cL_law 369 = .ok (.goto 622, 3) := by decide +kernel
theorem dL_law_372 : decode cL_law 372 = .ok (.aload_n 1, 1) := by decide +kernel
theorem dL_law_373 : decode cL_law 373 = .ok (.aload_n 0, 1) := by decide +kernel
theorem dL_law_374 : decode cL_law 374 = .ok (.iload 4, 2) := by decide +kernel
theorem dL_law_376 : decode cL_law 376 = .ok (.iconst 1, 1) := by decide +kernel
theorem dL_law_377 : decode cL_law 377 = .ok (.iadd, 1) := by decide +kernel
theorem dL_law_378 : decode cL_law 378 = .ok (.iaload, 1) := by decide +kernel
theorem dL_law_379 : decode cL_law 379 = .ok (.aload_n 3, 1) := by decide +kernel
theorem dL_law_380 : decode cL_law 380 = .ok (.invokestatic 83, 3) := by decide +kernel
theorem dL_law_383 : decode cL_law 383 = .ok (.istore 5, 2) := by decide +kernel
theorem dL_law_385 : decode cL_law 385 = .ok (.aload_n 2, 1) := by decide +kernel
theorem dL_law_386 : decode cL_law 386 = .ok (.aload_n 0, 1) := by decide +kernel
theorem dL_law_387 : decode cL_law 387 = .ok (.iload 4, 2) := by decide +kernel
theorem dL_law_389 : decode cL_law 389 = .ok (.iconst 1, 1) := by decide +kernel
theorem dL_law_390 : decode cL_law 390 = .ok (.iadd, 1) := by decide +kernel
theorem dL_law_391 : decode cL_law 391 = .ok (.iaload, 1) := by decide +kernel
theorem dL_law_392 : decode cL_law 392 = .ok (.invokevirtual 86, 3) := by decide +kernel
theorem dL_law_395 : decode cL_law 395 = .ok (.istore 6, 2) := by decide +kernel
theorem dL_law_397 : decode cL_law 397 = .ok (.aload_n 2, 1) := by decide +kernel
theorem dL_law_398 : decode cL_law 398 = .ok (.invokevirtual 69, 3) := by decide +kernel
theorem dL_law_401 : decode cL_law 401 = .ok (.iload 5, 2) := by decide +kernel
theorem dL_law_403 : decode cL_law 403 = .ok (.if_icmp .eq 5, 3) := by decide +kernel
theorem dL_law_406 : decode cL_law 406 = .ok (.iconst 0, 1) := by decide +kernel
theorem dL_law_407 : decode cL_law 407 = .ok (.ireturn, 1) := by decide +kernel
theorem dL_law_408 : decode cL_law 408 = .ok (.iload 5, 2) := by decide +kernel
theorem dL_law_410 : decode cL_law 410 = .ok (.ifCond .ne 15, 3) := by decide +kernel
theorem dL_law_413 : decode cL_law 413 = .ok (.aload_n 3, 1) := by decide +kernel
theorem dL_law_414 : decode cL_law 414 = .ok (.iconst 0, 1) := by decide +kernel
theorem dL_law_415 : decode cL_law 415 = .ok (.laload, 1) := by decide +kernel
theorem dL_law_416 : decode cL_law 416 = .ok (.iload 6, 2) := by decide +kernel
theorem dL_law_418 : decode cL_law 418 = .ok (.i2l, 1) := by decide +kernel
theorem dL_law_419 : decode cL_law 419 = .ok (.lcmp, 1) := by decide +kernel
theorem dL_law_420 : decode cL_law 420 = .ok (.ifCond .eq 5, 3) := by decide +kernel
theorem dL_law_423 : decode cL_law 423 = .ok (.iconst 0, 1) := by decide +kernel
theorem dL_law_424 : decode cL_law 424 = .ok (.ireturn, 1) := by decide +kernel
theorem dL_law_425 : decode cL_law 425 = .ok (.goto 566, 3) := by decide +kernel
theorem dL_law_428 : decode cL_law 428 = .ok (.aload_n 1, 1) := by decide +kernel
theorem dL_law_429 : decode cL_law 429 = .ok (.aload_n 0, 1) := by decide +kernel
theorem dL_law_430 : decode cL_law 430 = .ok (.iload 4, 2) := by decide +kernel
theorem dL_law_432 : decode cL_law 432 = .ok (.iconst 1, 1) := by decide +kernel
theorem dL_law_433 : decode cL_law 433 = .ok (.iadd, 1) := by decide +kernel
theorem dL_law_434 : decode cL_law 434 = .ok (.iaload, 1) := by decide +kernel
theorem dL_law_435 : decode cL_law 435 = .ok (.aload_n 3, 1) := by decide +kernel
theorem dL_law_436 : decode cL_law 436 = .ok (.invokestatic 87, 3) := by decide +kernel
theorem dL_law_439 : decode cL_law 439 = .ok (.istore 5, 2) := by decide +kernel
theorem dL_law_441 : decode cL_law 441 = .ok (.aload_n 2, 1) := by decide +kernel
theorem dL_law_442 : decode cL_law 442 = .ok (.aload_n 0, 1) := by decide +kernel
theorem dL_law_443 : decode cL_law 443 = .ok (.iload 4, 2) := by decide +kernel
theorem dL_law_445 : decode cL_law 445 = .ok (.iconst 1, 1) := by decide +kernel
theorem dL_law_446 : decode cL_law 446 = .ok (.iadd, 1) := by decide +kernel
theorem dL_law_447 : decode cL_law 447 = .ok (.iaload, 1) := by decide +kernel
theorem dL_law_448 : decode cL_law 448 = .ok (.invokevirtual 89, 3) := by decide +kernel
theorem dL_law_451 : decode cL_law 451 = .ok (.istore 6, 2) := by decide +kernel
theorem dL_law_453 : decode cL_law 453 = .ok (.aload_n 2, 1) := by decide +kernel
theorem dL_law_454 : decode cL_law 454 = .ok (.invokevirtual 69, 3) := by decide +kernel
theorem dL_law_457 : decode cL_law 457 = .ok (.iload 5, 2) := by decide +kernel
theorem dL_law_459 : decode cL_law 459 = .ok (.if_icmp .eq 5, 3) := by decide +kernel
theorem dL_law_462 : decode cL_law 462 = .ok (.iconst 0, 1) := by decide +kernel
theorem dL_law_463 : decode cL_law 463 = .ok (.ireturn, 1) := by decide +kernel
theorem dL_law_464 : decode cL_law 464 = .ok (.iload 5, 2) := by decide +kernel
theorem dL_law_466 : decode cL_law 466 = .ok (.ifCond .ne 15, 3) := by decide +kernel
theorem dL_law_469 : decode cL_law 469 = .ok (.aload_n 3, 1) := by decide +kernel
theorem dL_law_470 : decode cL_law 470 = .ok (.iconst 0, 1) := by decide +kernel
theorem dL_law_471 : decode cL_law 471 = .ok (.laload, 1) := by decide +kernel
theorem dL_law_472 : decode cL_law 472 = .ok (.iload 6, 2) := by decide +kernel
theorem dL_law_474 : decode cL_law 474 = .ok (.i2l, 1) := by decide +kernel
theorem dL_law_475 : decode cL_law 475 = .ok (.lcmp, 1) := by decide +kernel
theorem dL_law_476 : decode cL_law 476 = .ok (.ifCond .eq 5, 3) := by decide +kernel
theorem dL_law_479 : decode cL_law 479 = .ok (.iconst 0, 1) := by decide +kernel
theorem dL_law_480 : decode cL_law 480 = .ok (.ireturn, 1) := by decide +kernel
theorem dL_law_481 : decode cL_law 481 = .ok (.goto 510, 3) := by decide +kernel
theorem dL_law_484 : decode cL_law 484 = .ok (.aload_n 1, 1) := by decide +kernel
theorem dL_law_485 : decode cL_law 485 = .ok (.aload_n 0, 1) := by decide +kernel
theorem dL_law_486 : decode cL_law 486 = .ok (.iload 4, 2) := by decide +kernel
theorem dL_law_488 : decode cL_law 488 = .ok (.iconst 1, 1) := by decide +kernel
theorem dL_law_489 : decode cL_law 489 = .ok (.iadd, 1) := by decide +kernel
theorem dL_law_490 : decode cL_law 490 = .ok (.iaload, 1) := by decide +kernel
theorem dL_law_491 : decode cL_law 491 = .ok (.aload_n 3, 1) := by decide +kernel
theorem dL_law_492 : decode cL_law 492 = .ok (.invokestatic 90, 3) := by decide +kernel
theorem dL_law_495 : decode cL_law 495 = .ok (.istore 5, 2) := by decide +kernel
theorem dL_law_497 : decode cL_law 497 = .ok (.aload_n 2, 1) := by decide +kernel
theorem dL_law_498 : decode cL_law 498 = .ok (.aload_n 0, 1) := by decide +kernel
theorem dL_law_499 : decode cL_law 499 = .ok (.iload 4, 2) := by decide +kernel
theorem dL_law_501 : decode cL_law 501 = .ok (.iconst 1, 1) := by decide +kernel
theorem dL_law_502 : decode cL_law 502 = .ok (.iadd, 1) := by decide +kernel
theorem dL_law_503 : decode cL_law 503 = .ok (.iaload, 1) := by decide +kernel
theorem dL_law_504 : decode cL_law 504 = .ok (.invokevirtual 92, 3) := by decide +kernel
theorem dL_law_507 : decode cL_law 507 = .ok (.istore 6, 2) := by decide +kernel
theorem dL_law_509 : decode cL_law 509 = .ok (.aload_n 2, 1) := by decide +kernel
theorem dL_law_510 : decode cL_law 510 = .ok (.invokevirtual 69, 3) := by decide +kernel
theorem dL_law_513 : decode cL_law 513 = .ok (.iload 5, 2) := by decide +kernel
theorem dL_law_515 : decode cL_law 515 = .ok (.if_icmp .eq 5, 3) := by decide +kernel
theorem dL_law_518 : decode cL_law 518 = .ok (.iconst 0, 1) := by decide +kernel
theorem dL_law_519 : decode cL_law 519 = .ok (.ireturn, 1) := by decide +kernel
theorem dL_law_520 : decode cL_law 520 = .ok (.iload 5, 2) := by decide +kernel
theorem dL_law_522 : decode cL_law 522 = .ok (.ifCond .ne 15, 3) := by decide +kernel
theorem dL_law_525 : decode cL_law 525 = .ok (.aload_n 3, 1) := by decide +kernel
theorem dL_law_526 : decode cL_law 526 = .ok (.iconst 0, 1) := by decide +kernel
theorem dL_law_527 : decode cL_law 527 = .ok (.laload, 1) := by decide +kernel
theorem dL_law_528 : decode cL_law 528 = .ok (.iload 6, 2) := by decide +kernel
theorem dL_law_530 : decode cL_law 530 = .ok (.i2l, 1) := by decide +kernel
theorem dL_law_531 : decode cL_law 531 = .ok (.lcmp, 1) := by decide +kernel
theorem dL_law_532 : decode cL_law 532 = .ok (.ifCond .eq 5, 3) := by decide +kernel
theorem dL_law_535 : decode cL_law 535 = .ok (.iconst 0, 1) := by decide +kernel
theorem dL_law_536 : decode cL_law 536 = .ok (.ireturn, 1) := by decide +kernel
theorem dL_law_537 : decode cL_law 537 = .ok (.goto 454, 3) := by decide +kernel
theorem dL_law_540 : decode cL_law 540 = .ok (.aload_n 1, 1) := by decide +kernel
theorem dL_law_541 : decode cL_law 541 = .ok (.aload_n 0, 1) := by decide +kernel
theorem dL_law_542 : decode cL_law 542 = .ok (.iload 4, 2) := by decide +kernel
theorem dL_law_544 : decode cL_law 544 = .ok (.iconst 1, 1) := by decide +kernel
theorem dL_law_545 : decode cL_law 545 = .ok (.iadd, 1) := by decide +kernel
theorem dL_law_546 : decode cL_law 546 = .ok (.iaload, 1) := by decide +kernel
theorem dL_law_547 : decode cL_law 547 = .ok (.aload_n 0, 1) := by decide +kernel
theorem dL_law_548 : decode cL_law 548 = .ok (.iload 4, 2) := by decide +kernel
theorem dL_law_550 : decode cL_law 550 = .ok (.iconst 2, 1) := by decide +kernel
theorem dL_law_551 : decode cL_law 551 = .ok (.iadd, 1) := by decide +kernel
theorem dL_law_552 : decode cL_law 552 = .ok (.iaload, 1) := by decide +kernel
theorem dL_law_553 : decode cL_law 553 = .ok (.aload_n 3, 1) := by decide +kernel
theorem dL_law_554 : decode cL_law 554 = .ok (.invokestatic 93, 3) := by decide +kernel
theorem dL_law_557 : decode cL_law 557 = .ok (.istore 5, 2) := by decide +kernel
theorem dL_law_559 : decode cL_law 559 = .ok (.aload_n 2, 1) := by decide +kernel
theorem dL_law_560 : decode cL_law 560 = .ok (.aload_n 0, 1) := by decide +kernel
theorem dL_law_561 : decode cL_law 561 = .ok (.iload 4, 2) := by decide +kernel
theorem dL_law_563 : decode cL_law 563 = .ok (.iconst 1, 1) := by decide +kernel
theorem dL_law_564 : decode cL_law 564 = .ok (.iadd, 1) := by decide +kernel
theorem dL_law_565 : decode cL_law 565 = .ok (.iaload, 1) := by decide +kernel
theorem dL_law_566 : decode cL_law 566 = .ok (.aload_n 0, 1) := by decide +kernel
theorem dL_law_567 : decode cL_law 567 = .ok (.iload 4, 2) := by decide +kernel
theorem dL_law_569 : decode cL_law 569 = .ok (.iconst 2, 1) := by decide +kernel
theorem dL_law_570 : decode cL_law 570 = .ok (.iadd, 1) := by decide +kernel
theorem dL_law_571 : decode cL_law 571 = .ok (.iaload, 1) := by decide +kernel
theorem dL_law_572 : decode cL_law 572 = .ok (.invokevirtual 96, 3) := by decide +kernel
theorem dL_law_575 : decode cL_law 575 = .ok (.istore 6, 2) := by decide +kernel
theorem dL_law_577 : decode cL_law 577 = .ok (.aload_n 2, 1) := by decide +kernel
theorem dL_law_578 : decode cL_law 578 = .ok (.invokevirtual 69, 3) := by decide +kernel
theorem dL_law_581 : decode cL_law 581 = .ok (.iload 5, 2) := by decide +kernel
theorem dL_law_583 : decode cL_law 583 = .ok (.if_icmp .eq 5, 3) := by decide +kernel
theorem dL_law_586 : decode cL_law 586 = .ok (.iconst 0, 1) := by decide +kernel
theorem dL_law_587 : decode cL_law 587 = .ok (.ireturn, 1) := by decide +kernel
theorem dL_law_588 : decode cL_law 588 = .ok (.iload 5, 2) := by decide +kernel
theorem dL_law_590 : decode cL_law 590 = .ok (.ifCond .ne 15, 3) := by decide +kernel
theorem dL_law_593 : decode cL_law 593 = .ok (.aload_n 3, 1) := by decide +kernel
theorem dL_law_594 : decode cL_law 594 = .ok (.iconst 0, 1) := by decide +kernel
theorem dL_law_595 : decode cL_law 595 = .ok (.laload, 1) := by decide +kernel
theorem dL_law_596 : decode cL_law 596 = .ok (.iload 6, 2) := by decide +kernel
theorem dL_law_598 : decode cL_law 598 = .ok (.i2l, 1) := by decide +kernel
theorem dL_law_599 : decode cL_law 599 = .ok (.lcmp, 1) := by decide +kernel
theorem dL_law_600 : decode cL_law 600 = .ok (.ifCond .eq 5, 3) := by decide +kernel
theorem dL_law_603 : decode cL_law 603 = .ok (.iconst 0, 1) := by decide +kernel
theorem dL_law_604 : decode cL_law 604 = .ok (.ireturn, 1) := by decide +kernel
theorem dL_law_605 : decode cL_law 605 = .ok (.goto 386, 3) := by decide +kernel
theorem dL_law_608 : decode cL_law 608 = .ok (.aload_n 1, 1) := by decide +kernel
theorem dL_law_609 : decode cL_law 609 = .ok (.aload_n 0, 1) := by decide +kernel
theorem dL_law_610 : decode cL_law 610 = .ok (.iload 4, 2) := by decide +kernel
theorem dL_law_612 : decode cL_law 612 = .ok (.iconst 1, 1) := by decide +kernel
theorem dL_law_613 : decode cL_law 613 = .ok (.iadd, 1) := by decide +kernel
theorem dL_law_614 : decode cL_law 614 = .ok (.iaload, 1) := by decide +kernel
theorem dL_law_615 : decode cL_law 615 = .ok (.aload_n 3, 1) := by decide +kernel
theorem dL_law_616 : decode cL_law 616 = .ok (.invokestatic 97, 3) := by decide +kernel
theorem dL_law_619 : decode cL_law 619 = .ok (.istore 5, 2) := by decide +kernel
theorem dL_law_621 : decode cL_law 621 = .ok (.aload_n 2, 1) := by decide +kernel
theorem dL_law_622 : decode cL_law 622 = .ok (.aload_n 0, 1) := by decide +kernel
theorem dL_law_623 : decode cL_law 623 = .ok (.iload 4, 2) := by decide +kernel
theorem dL_law_625 : decode cL_law 625 = .ok (.iconst 1, 1) := by decide +kernel
theorem dL_law_626 : decode cL_law 626 = .ok (.iadd, 1) := by decide +kernel
theorem dL_law_627 : decode cL_law 627 = .ok (.iaload, 1) := by decide +kernel
theorem dL_law_628 : decode cL_law 628 = .ok (.invokevirtual 99, 3) := by decide +kernel
theorem dL_law_631 : decode cL_law 631 = .ok (.istore 6, 2) := by decide +kernel
theorem dL_law_633 : decode cL_law 633 = .ok (.aload_n 2, 1) := by decide +kernel
theorem dL_law_634 : decode cL_law 634 = .ok (.invokevirtual 69, 3) := by decide +kernel
theorem dL_law_637 : decode cL_law 637 = .ok (.iload 5, 2) := by decide +kernel
theorem dL_law_639 : decode cL_law 639 = .ok (.if_icmp .eq 5, 3) := by decide +kernel
theorem dL_law_642 : decode cL_law 642 = .ok (.iconst 0, 1) := by decide +kernel
theorem dL_law_643 : decode cL_law 643 = .ok (.ireturn, 1) := by decide +kernel
theorem dL_law_644 : decode cL_law 644 = .ok (.iload 5, 2) := by decide +kernel
theorem dL_law_646 : decode cL_law 646 = .ok (.ifCond .ne 15, 3) := by decide +kernel
theorem dL_law_649 : decode cL_law 649 = .ok (.aload_n 3, 1) := by decide +kernel
theorem dL_law_650 : decode cL_law 650 = .ok (.iconst 0, 1) := by decide +kernel
theorem dL_law_651 : decode cL_law 651 = .ok (.laload, 1) := by decide +kernel
theorem dL_law_652 : decode cL_law 652 = .ok (.iload 6, 2) := by decide +kernel
theorem dL_law_654 : decode cL_law 654 = .ok (.i2l, 1) := by decide +kernel
theorem dL_law_655 : decode cL_law 655 = .ok (.lcmp, 1) := by decide +kernel
theorem dL_law_656 : decode cL_law 656 = .ok (.ifCond .eq 5, 3) := by decide +kernel
theorem dL_law_659 : decode cL_law 659 = .ok (.iconst 0, 1) := by decide +kernel
theorem dL_law_660 : decode cL_law 660 = .ok (.ireturn, 1) := by decide +kernel
theorem dL_law_661 : decode cL_law 661 = .ok (.goto 330, 3) := by decide +kernel
theorem dL_law_664 : decode cL_law 664 = .ok (.aload_n 1, 1) := by decide +kernel
theorem dL_law_665 : decode cL_law 665 = .ok (.aload_n 0, 1) := by decide +kernel
theorem dL_law_666 : decode cL_law 666 = .ok (.iload 4, 2) := by decide +kernel
theorem dL_law_668 : decode cL_law 668 = .ok (.iconst 1, 1) := by decide +kernel
theorem dL_law_669 : decode cL_law 669 = .ok (.iadd, 1) := by decide +kernel
theorem dL_law_670 : decode cL_law 670 = .ok (.iaload, 1) := by decide +kernel
theorem dL_law_671 : decode cL_law 671 = .ok (.aload_n 0, 1) := by decide +kernel
theorem dL_law_672 : decode cL_law 672 = .ok (.iload 4, 2) := by decide +kernel
theorem dL_law_674 : decode cL_law 674 = .ok (.iconst 2, 1) := by decide +kernel
theorem dL_law_675 : decode cL_law 675 = .ok (.iadd, 1) := by decide +kernel
theorem dL_law_676 : decode cL_law 676 = .ok (.iaload, 1) := by decide +kernel
theorem dL_law_677 : decode cL_law 677 = .ok (.aload_n 3, 1) := by decide +kernel
theorem dL_law_678 : decode cL_law 678 = .ok (.invokestatic 100, 3) := by decide +kernel
theorem dL_law_681 : decode cL_law 681 = .ok (.istore 5, 2) := by decide +kernel
theorem dL_law_683 : decode cL_law 683 = .ok (.aload_n 2, 1) := by decide +kernel
theorem dL_law_684 : decode cL_law 684 = .ok (.aload_n 0, 1) := by decide +kernel
theorem dL_law_685 : decode cL_law 685 = .ok (.iload 4, 2) := by decide +kernel
theorem dL_law_687 : decode cL_law 687 = .ok (.iconst 1, 1) := by decide +kernel
theorem dL_law_688 : decode cL_law 688 = .ok (.iadd, 1) := by decide +kernel
theorem dL_law_689 : decode cL_law 689 = .ok (.iaload, 1) := by decide +kernel
theorem dL_law_690 : decode cL_law 690 = .ok (.aload_n 0, 1) := by decide +kernel
theorem dL_law_691 : decode cL_law 691 = .ok (.iload 4, 2) := by decide +kernel
theorem dL_law_693 : decode cL_law 693 = .ok (.iconst 2, 1) := by decide +kernel
theorem dL_law_694 : decode cL_law 694 = .ok (.iadd, 1) := by decide +kernel
theorem dL_law_695 : decode cL_law 695 = .ok (.iaload, 1) := by decide +kernel
theorem dL_law_696 : decode cL_law 696 = .ok (.invokevirtual 102, 3) := by decide +kernel
theorem dL_law_699 : decode cL_law 699 = .ok (.istore 6, 2) := by decide +kernel
theorem dL_law_701 : decode cL_law 701 = .ok (.aload_n 2, 1) := by decide +kernel
theorem dL_law_702 : decode cL_law 702 = .ok (.invokevirtual 69, 3) := by decide +kernel
theorem dL_law_705 : decode cL_law 705 = .ok (.iload 5, 2) := by decide +kernel
theorem dL_law_707 : decode cL_law 707 = .ok (.if_icmp .eq 5, 3) := by decide +kernel
theorem dL_law_710 : decode cL_law 710 = .ok (.iconst 0, 1) := by decide +kernel
theorem dL_law_711 : decode cL_law 711 = .ok (.ireturn, 1) := by decide +kernel
theorem dL_law_712 : decode cL_law 712 = .ok (.iload 5, 2) := by decide +kernel
theorem dL_law_714 : decode cL_law 714 = .ok (.ifCond .ne 15, 3) := by decide +kernel
theorem dL_law_717 : decode cL_law 717 = .ok (.aload_n 3, 1) := by decide +kernel
theorem dL_law_718 : decode cL_law 718 = .ok (.iconst 0, 1) := by decide +kernel
theorem dL_law_719 : decode cL_law 719 = .ok (.laload, 1) := by decide +kernel
theorem dL_law_720 : decode cL_law 720 = .ok (.iload 6, 2) := by decide +kernel
theorem dL_law_722 : decode cL_law 722 = .ok (.i2l, 1) := by decide +kernel
theorem dL_law_723 : decode cL_law 723 = .ok (.lcmp, 1) := by decide +kernel
theorem dL_law_724 : decode cL_law 724 = .ok (.ifCond .eq 5, 3) := by decide +kernel
theorem dL_law_727 : decode cL_law 727 = .ok (.iconst 0, 1) := by decide +kernel
theorem dL_law_728 : decode cL_law 728 = .ok (.ireturn, 1) := by decide +kernel
theorem dL_law_729 : decode cL_law 729 = .ok (.goto 262, 3) := by decide +kernel
theorem dL_law_732 : decode cL_law 732 = .ok (.aload_n 1, 1) := by decide +kernel
theorem dL_law_733 : decode cL_law 733 = .ok (.aload_n 0, 1) := by decide +kernel
theorem dL_law_734 : decode cL_law 734 = .ok (.iload 4, 2) := by decide +kernel
theorem dL_law_736 : decode cL_law 736 = .ok (.iconst 1, 1) := by decide +kernel
theorem dL_law_737 : decode cL_law 737 = .ok (.iadd, 1) := by decide +kernel
theorem dL_law_738 : decode cL_law 738 = .ok (.iaload, 1) := by decide +kernel
theorem dL_law_739 : decode cL_law 739 = .ok (.aload_n 3, 1) := by decide +kernel
theorem dL_law_740 : decode cL_law 740 = .ok (.invokestatic 103, 3) := by decide +kernel
theorem dL_law_743 : decode cL_law 743 = .ok (.istore 5, 2) := by decide +kernel
theorem dL_law_745 : decode cL_law 745 = .ok (.aload_n 2, 1) := by decide +kernel
theorem dL_law_746 : decode cL_law 746 = .ok (.aload_n 0, 1) := by decide +kernel
theorem dL_law_747 : decode cL_law 747 = .ok (.iload 4, 2) := by decide +kernel
theorem dL_law_749 : decode cL_law 749 = .ok (.iconst 1, 1) := by decide +kernel
theorem dL_law_750 : decode cL_law 750 = .ok (.iadd, 1) := by decide +kernel
theorem dL_law_751 : decode cL_law 751 = .ok (.iaload, 1) := by decide +kernel
theorem dL_law_752 : decode cL_law 752 = .ok (.invokevirtual 105, 3) := by decide +kernel
theorem dL_law_755 : decode cL_law 755 = .ok (.istore 6, 2) := by decide +kernel
theorem dL_law_757 : decode cL_law 757 = .ok (.aload_n 2, 1) := by decide +kernel
theorem dL_law_758 : decode cL_law 758 = .ok (.invokevirtual 69, 3) := by decide +kernel
theorem dL_law_761 : decode cL_law 761 = .ok (.iload 5, 2) := by decide +kernel
theorem dL_law_763 : decode cL_law 763 = .ok (.if_icmp .eq 5, 3) := by decide +kernel
theorem dL_law_766 : decode cL_law 766 = .ok (.iconst 0, 1) := by decide +kernel
theorem dL_law_767 : decode cL_law 767 = .ok (.ireturn, 1) := by decide +kernel
theorem dL_law_768 : decode cL_law 768 = .ok (.iload 5, 2) := by decide +kernel
theorem dL_law_770 : decode cL_law 770 = .ok (.ifCond .ne 15, 3) := by decide +kernel
theorem dL_law_773 : decode cL_law 773 = .ok (.aload_n 3, 1) := by decide +kernel
theorem dL_law_774 : decode cL_law 774 = .ok (.iconst 0, 1) := by decide +kernel
theorem dL_law_775 : decode cL_law 775 = .ok (.laload, 1) := by decide +kernel
theorem dL_law_776 : decode cL_law 776 = .ok (.iload 6, 2) := by decide +kernel
theorem dL_law_778 : decode cL_law 778 = .ok (.i2l, 1) := by decide +kernel
theorem dL_law_779 : decode cL_law 779 = .ok (.lcmp, 1) := by decide +kernel
theorem dL_law_780 : decode cL_law 780 = .ok (.ifCond .eq 5, 3) := by decide +kernel
theorem dL_law_783 : decode cL_law 783 = .ok (.iconst 0, 1) := by decide +kernel
theorem dL_law_784 : decode cL_law 784 = .ok (.ireturn, 1) := by decide +kernel
theorem dL_law_785 : decode cL_law 785 = .ok (.goto 206, 3) := by decide +kernel
theorem dL_law_788 : decode cL_law 788 = .ok (.aload_n 1, 1) := by decide +kernel
theorem dL_law_789 : decode cL_law 789 = .ok (.aload_n 0, 1) := by decide +kernel
theorem dL_law_790 : decode cL_law 790 = .ok (.iload 4, 2) := by decide +kernel
theorem dL_law_792 : decode cL_law 792 = .ok (.iconst 1, 1) := by decide +kernel
theorem dL_law_793 : decode cL_law 793 = .ok (.iadd, 1) := by decide +kernel
theorem dL_law_794 : decode cL_law 794 = .ok (.iaload, 1) := by decide +kernel
theorem dL_law_795 : decode cL_law 795 = .ok (.aload_n 0, 1) := by decide +kernel
theorem dL_law_796 : decode cL_law 796 = .ok (.iload 4, 2) := by decide +kernel
theorem dL_law_798 : decode cL_law 798 = .ok (.iconst 2, 1) := by decide +kernel
theorem dL_law_799 : decode cL_law 799 = .ok (.iadd, 1) := by decide +kernel
theorem dL_law_800 : decode cL_law 800 = .ok (.iaload, 1) := by decide +kernel
theorem dL_law_801 : decode cL_law 801 = .ok (.aload_n 0, 1) := by decide +kernel
theorem dL_law_802 : decode cL_law 802 = .ok (.iload 4, 2) := by decide +kernel
theorem dL_law_804 : decode cL_law 804 = .ok (.iconst 3, 1) := by decide +kernel
theorem dL_law_805 : decode cL_law 805 = .ok (.iadd, 1) := by decide +kernel
theorem dL_law_806 : decode cL_law 806 = .ok (.iaload, 1) := by decide +kernel
theorem dL_law_807 : decode cL_law 807 = .ok (.aload_n 0, 1) := by decide +kernel
theorem dL_law_808 : decode cL_law 808 = .ok (.iload 4, 2) := by decide +kernel
theorem dL_law_810 : decode cL_law 810 = .ok (.iconst 4, 1) := by decide +kernel
theorem dL_law_811 : decode cL_law 811 = .ok (.iadd, 1) := by decide +kernel
theorem dL_law_812 : decode cL_law 812 = .ok (.iaload, 1) := by decide +kernel
theorem dL_law_813 : decode cL_law 813 = .ok (.aload_n 3, 1) := by decide +kernel
theorem dL_law_814 : decode cL_law 814 = .ok (.invokestatic 106, 3) := by decide +kernel
theorem dL_law_817 : decode cL_law 817 = .ok (.istore 5, 2) := by decide +kernel
theorem dL_law_819 : decode cL_law 819 = .ok (.aload_n 2, 1) := by decide +kernel
theorem dL_law_820 : decode cL_law 820 = .ok (.aload_n 0, 1) := by decide +kernel
theorem dL_law_821 : decode cL_law 821 = .ok (.iload 4, 2) := by decide +kernel
theorem dL_law_823 : decode cL_law 823 = .ok (.iconst 1, 1) := by decide +kernel
theorem dL_law_824 : decode cL_law 824 = .ok (.iadd, 1) := by decide +kernel
theorem dL_law_825 : decode cL_law 825 = .ok (.iaload, 1) := by decide +kernel
theorem dL_law_826 : decode cL_law 826 = .ok (.aload_n 0, 1) := by decide +kernel
theorem dL_law_827 : decode cL_law 827 = .ok (.iload 4, 2) := by decide +kernel
theorem dL_law_829 : decode cL_law 829 = .ok (.iconst 2, 1) := by decide +kernel
theorem dL_law_830 : decode cL_law 830 = .ok (.iadd, 1) := by decide +kernel
theorem dL_law_831 : decode cL_law 831 = .ok (.iaload, 1) := by decide +kernel
theorem dL_law_832 : decode cL_law 832 = .ok (.aload_n 0, 1) := by decide +kernel
theorem dL_law_833 : decode cL_law 833 = .ok (.iload 4, 2) := by decide +kernel
theorem dL_law_835 : decode cL_law 835 = .ok (.iconst 3, 1) := by decide +kernel
theorem dL_law_836 : decode cL_law 836 = .ok (.iadd, 1) := by decide +kernel
theorem dL_law_837 : decode cL_law 837 = .ok (.iaload, 1) := by decide +kernel
theorem dL_law_838 : decode cL_law 838 = .ok (.aload_n 0, 1) := by decide +kernel
theorem dL_law_839 : decode cL_law 839 = .ok (.iload 4, 2) := by decide +kernel
theorem dL_law_841 : decode cL_law 841 = .ok (.iconst 4, 1) := by decide +kernel
theorem dL_law_842 : decode cL_law 842 = .ok (.iadd, 1) := by decide +kernel
theorem dL_law_843 : decode cL_law 843 = .ok (.iaload, 1) := by decide +kernel
theorem dL_law_844 : decode cL_law 844 = .ok (.invokevirtual 108, 3) := by decide +kernel
theorem dL_law_847 : decode cL_law 847 = .ok (.istore 6, 2) := by decide +kernel
theorem dL_law_849 : decode cL_law 849 = .ok (.aload_n 2, 1) := by decide +kernel
theorem dL_law_850 : decode cL_law 850 = .ok (.invokevirtual 69, 3) := by decide +kernel
theorem dL_law_853 : decode cL_law 853 = .ok (.iload 5, 2) := by decide +kernel
theorem dL_law_855 : decode cL_law 855 = .ok (.if_icmp .eq 5, 3) := by decide +kernel
theorem dL_law_858 : decode cL_law 858 = .ok (.iconst 0, 1) := by decide +kernel
theorem dL_law_859 : decode cL_law 859 = .ok (.ireturn, 1) := by decide +kernel
theorem dL_law_860 : decode cL_law 860 = .ok (.iload 5, 2) := by decide +kernel
theorem dL_law_862 : decode cL_law 862 = .ok (.ifCond .ne 15, 3) := by decide +kernel
theorem dL_law_865 : decode cL_law 865 = .ok (.aload_n 3, 1) := by decide +kernel
theorem dL_law_866 : decode cL_law 866 = .ok (.iconst 0, 1) := by decide +kernel
theorem dL_law_867 : decode cL_law 867 = .ok (.laload, 1) := by decide +kernel
theorem dL_law_868 : decode cL_law 868 = .ok (.iload 6, 2) := by decide +kernel
theorem dL_law_870 : decode cL_law 870 = .ok (.i2l, 1) := by decide +kernel
theorem dL_law_871 : decode cL_law 871 = .ok (.lcmp, 1) := by decide +kernel
theorem dL_law_872 : decode cL_law 872 = .ok (.ifCond .eq 5, 3) := by decide +kernel
theorem dL_law_875 : decode cL_law 875 = .ok (.iconst 0, 1) := by decide +kernel
theorem dL_law_876 : decode cL_law 876 = .ok (.ireturn, 1) := by decide +kernel
theorem dL_law_877 : decode cL_law 877 = .ok (.goto 114, 3) := by decide +kernel
theorem dL_law_880 : decode cL_law 880 = .ok (.aload_n 1, 1) := by decide +kernel
theorem dL_law_881 : decode cL_law 881 = .ok (.aload_n 0, 1) := by decide +kernel
theorem dL_law_882 : decode cL_law 882 = .ok (.iload 4, 2) := by decide +kernel
theorem dL_law_884 : decode cL_law 884 = .ok (.iconst 1, 1) := by decide +kernel
theorem dL_law_885 : decode cL_law 885 = .ok (.iadd, 1) := by decide +kernel
theorem dL_law_886 : decode cL_law 886 = .ok (.iaload, 1) := by decide +kernel
theorem dL_law_887 : decode cL_law 887 = .ok (.aload_n 3, 1) := by decide +kernel
theorem dL_law_888 : decode cL_law 888 = .ok (.invokestatic 109, 3) := by decide +kernel
theorem dL_law_891 : decode cL_law 891 = .ok (.istore 5, 2) := by decide +kernel
theorem dL_law_893 : decode cL_law 893 = .ok (.aload_n 2, 1) := by decide +kernel
theorem dL_law_894 : decode cL_law 894 = .ok (.aload_n 0, 1) := by decide +kernel
theorem dL_law_895 : decode cL_law 895 = .ok (.iload 4, 2) := by decide +kernel
theorem dL_law_897 : decode cL_law 897 = .ok (.iconst 1, 1) := by decide +kernel
theorem dL_law_898 : decode cL_law 898 = .ok (.iadd, 1) := by decide +kernel
theorem dL_law_899 : decode cL_law 899 = .ok (.iaload, 1) := by decide +kernel
theorem dL_law_900 : decode cL_law 900 = .ok (.invokevirtual 111, 3) := by decide +kernel
theorem dL_law_903 : decode cL_law 903 = .ok (.istore 6, 2) := by decide +kernel
theorem dL_law_905 : decode cL_law 905 = .ok (.aload_n 2, 1) := by decide +kernel
theorem dL_law_906 : decode cL_law 906 = .ok (.invokevirtual 69, 3) := by decide +kernel
theorem dL_law_909 : decode cL_law 909 = .ok (.iload 5, 2) := by decide +kernel
theorem dL_law_911 : decode cL_law 911 = .ok (.if_icmp .eq 5, 3) := by decide +kernel
theorem dL_law_914 : decode cL_law 914 = .ok (.iconst 0, 1) := by decide +kernel
theorem dL_law_915 : decode cL_law 915 = .ok (.ireturn, 1) := by decide +kernel
theorem dL_law_916 : decode cL_law 916 = .ok (.iload 5, 2) := by decide +kernel
theorem dL_law_918 : decode cL_law 918 = .ok (.ifCond .ne 15, 3) := by decide +kernel
theorem dL_law_921 : decode cL_law 921 = .ok (.aload_n 3, 1) := by decide +kernel
theorem dL_law_922 : decode cL_law 922 = .ok (.iconst 0, 1) := by decide +kernel
theorem dL_law_923 : decode cL_law 923 = .ok (.laload, 1) := by decide +kernel
theorem dL_law_924 : decode cL_law 924 = .ok (.iload 6, 2) := by decide +kernel
theorem dL_law_926 : decode cL_law 926 = .ok (.i2l, 1) := by decide +kernel
theorem dL_law_927 : decode cL_law 927 = .ok (.lcmp, 1) := by decide +kernel
theorem dL_law_928 : decode cL_law 928 = .ok (.ifCond .eq 5, 3) := by decide +kernel
theorem dL_law_931 : decode cL_law 931 = .ok (.iconst 0, 1) := by decide +kernel
theorem dL_law_932 : decode cL_law 932 = .ok (.ireturn, 1) := by decide +kernel
theorem dL_law_933 : decode cL_law 933 = .ok (.goto 58, 3) := by decide +kernel
theorem dL_law_936 : decode cL_law 936 = .ok (.aload_n 1, 1) := by decide +kernel
theorem dL_law_937 : decode cL_law 937 = .ok (.invokevirtual 112, 3) := by decide +kernel
theorem dL_law_940 : decode cL_law 940 = .ok (.dstore 5, 2) := by decide +kernel
theorem dL_law_942 : decode cL_law 942 = .ok (.aload_n 2, 1) := by decide +kernel
theorem dL_law_943 : decode cL_law 943 = .ok (.invokevirtual 116, 3) := by decide +kernel
theorem dL_law_946 : decode cL_law 946 = .ok (.dstore 7, 2) := by decide +kernel
theorem dL_law_948 : decode cL_law 948 = .ok (.dload 5, 2) := by decide +kernel
theorem dL_law_950 : decode cL_law 950 = .ok (.dload 7, 2) := by decide +kernel
theorem dL_law_952 : decode cL_law 952 = .ok (.dcmp .l, 1) := by decide +kernel
theorem dL_law_953 : decode cL_law 953 = .ok (.ifCond .eq 21, 3) := by decide +kernel
theorem dL_law_956 : decode cL_law 956 = .ok (.dload 5, 2) := by decide +kernel
theorem dL_law_958 : decode cL_law 958 = .ok (.dload 5, 2) := by decide +kernel
theorem dL_law_960 : decode cL_law 960 = .ok (.dcmp .l, 1) := by decide +kernel
theorem dL_law_961 : decode cL_law 961 = .ok (.ifCond .eq 11, 3) := by decide +kernel
theorem dL_law_964 : decode cL_law 964 = .ok (.dload 7, 2) := by decide +kernel
theorem dL_law_966 : decode cL_law 966 = .ok (.dload 7, 2) := by decide +kernel
theorem dL_law_968 : decode cL_law 968 = .ok (.dcmp .l, 1) := by decide +kernel
theorem dL_law_969 : decode cL_law 969 = .ok (.ifCond .ne 5, 3) := by decide +kernel
theorem dL_law_972 : decode cL_law 972 = .ok (.iconst 0, 1) := by decide +kernel
theorem dL_law_973 : decode cL_law 973 = .ok (.ireturn, 1) := by decide +kernel
theorem dL_law_974 : decode cL_law 974 = .ok (.goto 17, 3) := by decide +kernel
theorem dL_law_977 : decode cL_law 977 = .ok (.aload_n 1, 1) := by decide +kernel
theorem dL_law_978 : decode cL_law 978 = .ok (.invokevirtual 117, 3) := by decide +kernel
theorem dL_law_981 : decode cL_law 981 = .ok (.aload_n 2, 1) := by decide +kernel
theorem dL_law_982 : decode cL_law 982 = .ok (.invokevirtual 121, 3) := by decide +kernel
theorem dL_law_985 : decode cL_law 985 = .ok (.lcmp, 1) := by decide +kernel
theorem dL_law_986 : decode cL_law 986 = .ok (.ifCond .eq 5, 3) := by decide +kernel
theorem dL_law_989 : decode cL_law 989 = .ok (.iconst 0, 1) := by decide +kernel
theorem dL_law_990 : decode cL_law 990 = .ok (.ireturn, 1) := by decide +kernel
theorem dL_law_991 : decode cL_law 991 = .ok (.iinc 4 5, 3) := by decide +kernel
theorem dL_law_994 : decode cL_law 994 = .ok (.goto (-971), 3) := by decide +kernel
theorem dL_law_997 : decode cL_law 997 = .ok (.iconst 1, 1) := by decide +kernel
theorem dL_law_998 : decode cL_law 998 = .ok (.ireturn, 1) := by decide +kernel
